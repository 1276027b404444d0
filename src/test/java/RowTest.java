/** Promises 76 to 78: rows of numbers in SLOTS, as laws() and dates() see them. */
final class RowTest {
    private static final Due due = new Due("RowTest");

    /** One ENTRY, 5 in YEAR 0 and 10 from then on. */
    private static final String BOOK = "book years 6 law 0 odds 5;ink rise 5 top 10 fade 0;page;entry on 0 in 0 wrote 0 says 0;";

    public static void main(String[] args) {
        rows();
        writes();
        widths();
        pastes();
        pastesRefused();
        due.close();
    }

    private static void rows() {
        GallRegister x = Due.told(BOOK);
        int[][] refused = {{4, 0, 3, -2}, {-1, 0, 3, -2}, {0, 4, 3, -2}, {0, -1, 3, -2}, {0, 0, 61, -2}, {0, 0, -1, -3},
            {4, 0, -1, -2}, {0, 4, -1, -2}, {0, 0, Integer.MIN_VALUE, -3}, {0, 0, Integer.MAX_VALUE, -2}};
        for (int[] r : refused) {
            due.is("row(" + r[0] + ", " + r[1] + ", " + r[2] + ")", x.row(r[0], r[1], r[2]), r[3]);
        }
        due.is("no rows", x.count(9), 0);
        for (int slot = 0; slot < 4; slot++) {
            due.is("row", x.row(slot, slot, 20 * slot), 0);
            due.is("rows", x.count(9), slot + 1);
        }
        Due.seen(x, 0, 0, 1, 10);
        due.is("as written", x.laws(0), 15);
        due.is("refused", x.row(0, 1, -1), -3);
        due.is("refused", x.row(0, 1, 61), -2);
        due.is("the SLOT stays", x.laws(0), 15);
        due.is("another one", x.row(0, 1, 3), 0);
        due.is("all 0", x.laws(0), 0);
        due.is("rows", x.count(9), 4);
        Due.seen(x, 0, 0, 1, 10, 0, 0, 5);
        due.is("shorter", x.row(0, 1, 3), 0);
        due.is("longer", x.row(0, 1, 6), 0);
        x.write(0, 2, 5);
        due.is("all 0 again", x.laws(0), 0);
        x.write(0, 5, 5);
        due.is("as written", x.laws(0), 15);
        for (int i = 0; i < 60; i++) {
            x.row(2, 3, 60);
            x.write(2, i, 99);
            due.is("99 at " + i, x.laws(2), -2);
            x.row(2, 3, 60);
            due.is("0 at " + i, x.laws(2), 0);
        }
    }

    private static void writes() {
        GallRegister x = Due.told(BOOK);
        due.is("nothing", x.write(0, 0, 1), -6);
        due.is("no SLOT", x.write(4, 0, 1), -2);
        due.is("no SLOT", x.write(-1, 0, 1), -2);
        x.row(0, 1, 3);
        int[][] refused = {{3, -7}, {-1, -7}, {Integer.MIN_VALUE, -7}, {Integer.MAX_VALUE, -7}, {2, 0}};
        for (int[] w : refused) {
            due.is("write(0, " + w[0] + ")", x.write(0, w[0], 5), w[1]);
        }
        due.is("as written", x.laws(0), 15);
        x.row(1, 0, 0);
        due.is("no number", x.write(1, 0, 0), -7);
        x.row(1, 0, 60);
        due.is("the last one", x.write(1, 59, 0), 0);
        due.is("behind it", x.write(1, 60, 0), -7);
    }

    private static void widths() {
        GallRegister x = Due.told(BOOK);
        long[] above = {1L << 8, 1L << 16, 1L << 32};
        for (int width = 0; width < 4; width++) {
            x.row(0, width, 3);
            for (int i = 0; i < 3; i++) {
                x.write(0, 2, above[i] + 5);
                due.is("width " + width + " of " + above[i], x.laws(0), i >= width ? 15 : -2);
                x.write(0, 2, 5 - above[i]);
                due.is("width " + width + " of less " + above[i], x.laws(0), i >= width ? 15 : -2);
            }
            x.write(0, 2, 5);
            due.is("width " + width, x.laws(0), 15);
            x.write(0, 2, Long.MIN_VALUE + 5);
            due.is("width " + width + " of the least", x.laws(0), width < 3 ? 15 : -2);
        }
        // A width of 3 kept in a SLOT is kept when another SLOT has 0.
        x.row(1, 0, 3);
        x.write(0, 2, 261);
        x.write(1, 2, 261);
        due.is("of SLOT 0", x.laws(0), -2);
        due.is("of SLOT 1", x.laws(1), 15);
    }

    private static void pastes() {
        GallRegister x = Due.told(BOOK);
        Due.seen(x, 0, 0, 0, 5, 0, 1, 10);
        Due.seen(x, 1, 0, 0, 0, 0, 0, 0);
        due.is("not so", x.laws(1), 0);
        due.is("paste", x.paste(0, 2, 1, 2, 4), 0);
        due.is("as pasted", x.laws(1), 15);
        due.is("the first stays", x.laws(0), 15);
        due.is("a number of it", x.write(0, 2, 6), 0);
        due.is("another row", x.laws(1), 15);
        due.is("not so", x.laws(0), 0);
        // On itself, as they were: 0 0 5 0 1 10 behind one another both ways.
        Due.seen(x, 2, 0, 0, 5, 0, 0, 0, 0, 0, 0);
        due.is("paste on", x.paste(2, 0, 2, 3, 6), 0);
        // 0 0 5 | 0 0 5 | 0 0 0: as they were, not again and again
        due.is("as they were", x.laws(2), 0);
        x.write(2, 8, 5);
        due.is("as they were", x.laws(2), 15);
        Due.seen(x, 2, 9, 0, 0, 5, 0, 1, 10);
        due.is("paste ahead", x.paste(2, 1, 2, 0, 6), 0);
        due.is("seven are not three each", x.laws(2), -2);
        Due.seen(x, 3, 0, 0, 0, 0, 0, 0);
        due.is("paste it on", x.paste(2, 0, 3, 0, 6), 0);
        due.is("as it was", x.laws(3), 15);
        due.is("paste none", x.paste(2, 7, 3, 6, 0), 0);
        due.is("nothing happens", x.laws(3), 15);
        due.is("all of it", x.paste(3, 0, 3, 0, 6), 0);
        due.is("as it was", x.laws(3), 15);
    }

    private static void pastesRefused() {
        GallRegister x = Due.told(BOOK);
        Due.seen(x, 0, 0, 0, 5, 0, 1, 10);
        x.row(1, 1, 3);
        x.row(2, 2, 3);
        int least = Integer.MIN_VALUE;
        int most = Integer.MAX_VALUE;
        int[][] refused = {
            {4, 0, 0, 0, 1, -2}, {0, 0, 4, 0, 1, -2}, {-1, 0, 0, 0, 1, -2}, {0, 0, -1, 0, 1, -2}, {3, 0, 4, 0, 1, -2},
            {3, 0, 0, 0, 1, -6}, {0, 0, 3, 0, 1, -6}, {3, 0, 2, 9, -1, -6}, {0, 0, 2, 0, 1, -8}, {2, 9, 0, 9, -1, -8},
            {0, 0, 1, 0, 4, -7}, {0, 0, 1, 1, 3, -7}, {0, 4, 1, 0, 3, -7}, {0, 0, 1, 0, -1, -7}, {0, -1, 1, 0, 1, -7},
            {0, 0, 1, -1, 1, -7}, {0, 7, 1, 0, 0, -7}, {0, 0, 1, 4, 0, -7}, {0, most, 1, 0, most, -7}, {0, 0, 1, most, 2, -7},
            {0, 1, 1, 1, most, -7}, {0, least, 1, 0, least, -7}, {0, 0, 1, 0, least, -7},
            {0, 6, 1, 3, 0, 0}, {0, 0, 1, 0, 0, 0}};
        for (int[] p : refused) {
            due.is("paste(" + p[0] + ", " + p[1] + ", " + p[2] + ", " + p[3] + ", " + p[4] + ")",
                    x.paste(p[0], p[1], p[2], p[3], p[4]), p[5]);
        }
        x.write(1, 2, 5);
        due.is("nothing happens", x.laws(1), 15);
        due.is("nothing happens", x.laws(0), 15);
    }
}
