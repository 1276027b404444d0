/** Promises 32 to 38: what can be by what was SEEN. */
final class SeenTest {
    private static final Due due = new Due("SeenTest");

    private static final String LINES =
            "ink rise 5 top 20 fade 1;ink rise 3 top 9 fade 2;"
            + "page damp;page;"
            + "entry on 0 in 0 wrote 0 says 0;entry on 0 in 1 wrote 2 says 1;"
            + "entry on 1 in 0 wrote 1 says 1;entry on 0 in 0 wrote 1 says 3;";

    public static void main(String[] args) {
        dates();
        emptyRow();
        severalSeen();
        othersSeen();
        questions();
        actsAsNow();
        facingLaw();
        kinds();
        laws();
        refused();
        numbersNoneSuch();
        due.close();
    }

    private static GallRegister register(int law) {
        return Due.told("book years 6 law " + law + " odds 5;" + LINES);
    }

    private static void all(String name, GallRegister x, int slot, int entry, int... want) {
        String of = name + " (" + slot + ", " + entry + ")";
        due.is("dates " + of, x.dates(slot, entry), want[0]);
        due.is("first " + of, x.first(slot, entry), want[1]);
        due.is("last " + of, x.last(slot, entry), want[2]);
        due.is("ask " + of, x.ask(slot, entry), want[3]);
        due.is("leaves " + of, x.leaves(slot, entry), want[4]);
    }

    private static void dates() {
        GallRegister x = register(0);
        Due.seen(x, 0, 0, 6, 17);
        all("as told", x, 0, 0, 1, 0, 0, -1, 1);
        Due.seen(x, 1, 0, 6, 18);
        all("a YEAR later", x, 1, 0, 1, 1, 1, -1, 1);
        Due.seen(x, 2, 1, 6, 3);
        // Written in 1 it has 3 6 9 7 5 3 from 1 on, in 6 it has 3.
        all("rising or pale", x, 2, 1, 2, 1, 6, 1, 1);
        Due.seen(x, 3, 0, 3, 0);
        // Not there yet: written in 4, 5, 6; YEARS 4 on tell which.
        all("not there yet", x, 3, 0, 3, 4, 6, 5, 1);
        Due.seen(x, 3, 0, 6, 60);
        all("never so", x, 3, 0, 0, -1, -1, -1, 0);
        due.is("the BOOK stays", x.entry(0, 2), 0);
        due.is("the BOOK stays", x.shade(0, 6), 17);
    }

    private static void emptyRow() {
        GallRegister x = register(0);
        x.row(0, 3, 0);
        all("all YEARS", x, 0, 0, 7, 0, 6, 5, 1);
        due.is("kinds of all", x.kinds(0, 0), 3);
        due.is("laws of all", x.laws(0), 15);
        // Written in 0 .. 6 it has 5 7 9 6 3 0 0 in YEAR 4, and 7 9 6 3 0 0 0 in the one ahead.
        all("all YEARS", x, 0, 1, 7, 0, 6, 4, 2);
    }

    private static void severalSeen() {
        GallRegister x = register(0);
        Due.seen(x, 0, 1, 6, 3, 1, 5, 5);
        all("two of one", x, 0, 1, 1, 1, 1, -1, 1);
        Due.seen(x, 0, 1, 6, 3, 1, 5, 0, 1, 6, 3);
        all("one twice", x, 0, 1, 1, 6, 6, -1, 1);
        Due.seen(x, 0, 1, 6, 3, 1, 5, 6);
        all("none at once", x, 0, 1, 0, -1, -1, -1, 0);
    }

    private static void othersSeen() {
        GallRegister x = register(0);
        Due.seen(x, 0, 2, 6, 18, 0, 0, 5);
        all("another one, as now", x, 0, 0, 1, 0, 0, -1, 1);
        all("another one, as now", x, 0, 2, 1, 1, 1, -1, 1);
        all("a third one", x, 0, 1, 7, 0, 6, 4, 2);
        Due.seen(x, 0, 2, 6, 17);
        all("another one, not as now", x, 0, 0, 0, -1, -1, -1, 0);
        all("another one, not as now", x, 0, 1, 0, -1, -1, -1, 0);
    }

    private static void questions() {
        // It has one and the same SHADE once it is there: only a YEAR in the middle parts them.
        GallRegister x = Due.told("book years 5 law 0 odds 0;ink rise 9 top 9 fade 0;page;entry on 0 in 0 wrote 20 says 0;");
        x.row(0, 0, 0);
        all("in the middle", x, 0, 0, 6, 0, 5, 2, 3);
        Due.seen(x, 0, 0, 0, 9);
        all("one", x, 0, 0, 1, 0, 0, -1, 1);
        Due.seen(x, 0, 0, 5, 9, 0, 3, 0);
        all("two", x, 0, 0, 2, 4, 5, 4, 1);
        Due.seen(x, 0, 0, 5, 0);
        all("never there is none of these", x, 0, 0, 0, -1, -1, -1, 0);
        // Bleached to 0 at once in each YEAR: nothing parts them.
        for (int year = 0; year <= 5; year++) {
            x.bleaches(0, year);
        }
        x.row(0, 0, 0);
        all("nothing to ask", x, 0, 0, 6, 0, 5, -1, 6);
    }

    private static void actsAsNow() {
        GallRegister x = register(0);
        x.bleaches(0, 3);
        // Written in 0 .. 6 it has 10 - 3, 15 - 10 - 3, 0, 0, 15, 10, 5 in YEAR 6.
        int[] last = {7, 2, 0, 0, 15, 10, 5};
        for (int wrote = 0; wrote < 7; wrote++) {
            Due.seen(x, 0, 0, 6, last[wrote]);
            int like = last[wrote] == 0 ? 2 : 1;
            due.is("dates of " + last[wrote], x.dates(0, 0), like);
            due.is("first of " + last[wrote], x.first(0, 0), last[wrote] == 0 ? 2 : wrote);
            due.is("last of " + last[wrote], x.last(0, 0), last[wrote] == 0 ? 3 : wrote);
        }
        x.anew();
        x.retraces(0, 1, 6);
        Due.seen(x, 0, 0, 6, 3);
        due.is("retraced, any", x.dates(0, 0), 7);
        due.is("retraced, any ink", x.kinds(0, 0), 3);
        due.is("retraced, any law", x.laws(0), 15);
    }

    private static void facingLaw() {
        // What the facing one has tells when the dark one was written.
        GallRegister x = Due.told("book years 4 law 2 odds 0;ink rise 20 top 20 fade 0;ink rise 1 top 1 fade 1;ink rise 9 top 9 fade 0;"
                + "page;page;entry on 0 in 0 wrote 0 says 0;entry on 1 in 1 wrote 0 says 0;");
        Due.seen(x, 0, 1, 3, 0, 1, 4, 1);
        all("by its facing one", x, 0, 0, 1, 3, 3, -1, 1);
        Due.seen(x, 1, 1, 4, 1);
        due.is("kinds by its facing one", x.kinds(1, 0), 1);
        due.is("laws by its facing one", x.laws(1), 4);
        Due.seen(x, 1, 1, 4, 0);
        due.is("kinds by its facing one", x.kinds(1, 0), 6);
        due.is("laws by its facing one", x.laws(1), 11);
    }

    private static void kinds() {
        GallRegister x = register(0);
        Due.seen(x, 0, 0, 6, 17);
        due.is("kinds", x.kinds(0, 0), 1);
        Due.seen(x, 0, 0, 6, 1);
        due.is("kinds", x.kinds(0, 0), 2);
        due.is("kinds of another", x.kinds(0, 1), 0);
        Due.seen(x, 0, 1, 1, 0);
        due.is("kinds ahead of it", x.kinds(0, 1), 3);
        due.is("the BOOK stays", x.entry(0, 1), 0);
        GallRegister like = Due.told("book years 2 law 0 odds 0;ink rise 5 top 9 fade 0;ink rise 4 top 9 fade 0;ink rise 5 top 9 fade 3;"
                + "page;entry on 0 in 1 wrote 0 says 0;");
        Due.seen(like, 0, 0, 0, 5);
        due.is("kinds that are alike", like.kinds(0, 0), 5);
    }

    private static void laws() {
        GallRegister x = register(3);
        int[][] want = {{17, 5}, {14, 2}, {18, 8}, {16, 0}};
        for (int[] w : want) {
            Due.seen(x, 0, 0, 6, w[0]);
            due.is("laws of " + w[0], x.laws(0), w[1]);
        }
        due.is("the LAW stays", x.count(1), 3);
        GallRegister bare = Due.told("book years 2 law 0 odds 0;");
        bare.row(0, 0, 0);
        due.is("laws without an ENTRY", bare.laws(0), 15);
        due.is("dates without an ENTRY", bare.dates(0, 0), -2);
    }

    private static void refusedAll(String name, GallRegister x, int slot, int entry, int want, int wantOfLaws) {
        all(name, x, slot, entry, want, want, want, want, want);
        due.is("kinds " + name, x.kinds(slot, entry), want);
        due.is("laws " + name, x.laws(slot), wantOfLaws);
    }

    private static void refused() {
        GallRegister x = register(0);
        refusedAll("nothing", x, 0, 0, -6, -6);
        refusedAll("no ENTRY, nothing", x, 0, 4, -2, -6);
        refusedAll("no SLOT", x, 4, 0, -2, -2);
        refusedAll("no SLOT", x, -1, 0, -2, -2);
        Due.seen(x, 0, 0, 6, 17);
        refusedAll("no ENTRY", x, 0, 4, -2, 5);
        refusedAll("no ENTRY", x, 0, -1, -2, 5);
        for (int n = 1; n <= 60; n++) {
            x.row(1, 2, n);
            boolean threeEach = n % 3 == 0;
            due.is("kinds, a row of " + n, x.kinds(1, 1), threeEach ? 0 : -2);
            due.is("dates, a row of " + n, x.dates(1, 1) == -2 ? 1 : 0, threeEach ? 0 : 1);
            due.is("laws, a row of " + n, x.laws(1) == -2 ? 1 : 0, threeEach ? 0 : 1);
        }
        GallRegister none = new GallRegister();
        refusedAll("no BOOK, nothing", none, 0, 0, -2, -2);
        none.row(0, 0, 0);
        refusedAll("no BOOK", none, 0, 0, -2, -2);
    }

    private static void numbersNoneSuch() {
        GallRegister x = register(0);
        int[][] none = {{4, 0, 0}, {-1, 0, 0}, {0, 7, 0}, {0, -1, 0}, {0, 0, 61}, {0, 0, -1}};
        for (int[] n : none) {
            for (int width = 0; width < 4; width++) {
                x.row(0, width, 6);
                for (int i = 0; i < 3; i++) {
                    x.write(0, 3 + i, n[i]);
                }
                refusedAll("of " + n[0] + " " + n[1] + " " + n[2], x, 0, 0, -2, -2);
            }
        }
        Due.seen(x, 0, 3, 6, 60);
        all("at most", x, 0, 3, 0, -1, -1, -1, 0);
        due.is("kinds at most", x.kinds(0, 3), 0);
        due.is("laws at most", x.laws(0), 0);
        // A number of 8 bytes is not cut to fewer.
        x.row(0, 3, 3);
        x.write(0, 0, 1L << 32);
        refusedAll("8 bytes", x, 0, 0, -2, -2);
        x.write(0, 0, 0);
        x.write(0, 1, 1L << 32);
        refusedAll("8 bytes", x, 0, 0, -2, -2);
        x.write(0, 1, 0);
        x.write(0, 2, (1L << 32) + 5);
        refusedAll("8 bytes", x, 0, 0, -2, -2);
    }
}
