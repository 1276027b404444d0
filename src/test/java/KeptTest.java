/** Promises 66 to 69, 72, 74, 75: acts, what an ENTRY says, IMAGES. */
final class KeptTest {
    private static final Due due = new Due("KeptTest");

    private static final String BOOK = "book years 6 law 0 odds 5;"
            + "ink rise 5 top 20 fade 1;ink rise 3 top 9 fade 2;"
            + "page damp;page;"
            + "entry on 0 in 0 wrote 0 says 0;entry on 0 in 1 wrote 2 says 1;"
            + "entry on 1 in 0 wrote 1 says 1;entry on 0 in 0 wrote 1 says 3;";

    public static void main(String[] args) {
        acts();
        actsRefused();
        thirtyActs();
        undo();
        anew();
        rate();
        images();
        imagesOfNoBook();
        due.close();
    }

    private static void acts() {
        GallRegister x = Due.told(BOOK);
        due.is("retraces", x.retraces(0, 0, 6), 5);
        due.is("retraces with another", x.retraces(0, 1, 6), 3);
        due.is("bleaches", x.bleaches(2, 6), 8);
        due.is("bleaches again", x.bleaches(2, 6), 0);
        due.is("not there", x.retraces(1, 0, 0), 5);
        due.is("not there", x.bleaches(1, 1), 5);
        due.is("acts", x.count(6), 6);
        due.is("the ink told stays", x.entry(0, 1), 0);
        due.is("an ink from then on", x.retraces(3, 1, 2), 5);
        int[] want = {0, 5, 3, 6, 9, 7, 5};
        for (int year = 0; year < 7; year++) {
            due.is("shade(3, " + year + ")", x.shade(3, year), want[year]);
        }
        due.is("an earlier act, told later", x.bleaches(3, 1), 5);
        due.is("it is done first", x.shade(3, 1), 0);
        due.is("and the later one behind", x.shade(3, 2), 3);
    }

    private static void actsRefused() {
        GallRegister x = Due.told(BOOK);
        int[][] retraces = {{4, 0, 0}, {-1, 0, 0}, {0, 2, 0}, {0, -1, 0}, {0, 0, 7}, {0, 0, -1}};
        for (int[] a : retraces) {
            due.is("retraces(" + a[0] + ", " + a[1] + ", " + a[2] + ")", x.retraces(a[0], a[1], a[2]), -2);
        }
        int[][] bleaches = {{4, 0}, {-1, 0}, {0, 7}, {0, -1}};
        for (int[] a : bleaches) {
            due.is("bleaches(" + a[0] + ", " + a[1] + ")", x.bleaches(a[0], a[1]), -2);
        }
        due.is("no acts", x.count(6), 0);
        GallRegister none = new GallRegister();
        due.is("new retraces", none.retraces(0, 0, 0), -2);
        due.is("new bleaches", none.bleaches(0, 0), -2);
    }

    private static void thirtyActs() {
        GallRegister x = Due.told(BOOK);
        for (int i = 0; i < 15; i++) {
            due.is("act", x.retraces(0, 1, 1), 3);
            due.is("act", x.bleaches(1, 0), 5);
        }
        due.is("acts", x.count(6), 30);
        due.is("31st", x.bleaches(0, 6), -5);
        due.is("31st", x.retraces(0, 0, 6), -5);
        due.is("none such is asked ahead", x.bleaches(4, 6), -2);
        due.is("none such is asked ahead", x.retraces(0, 2, 6), -2);
        due.is("acts", x.count(6), 30);
        due.is("shade", x.shade(0, 6), 3);
        due.is("undo", x.undo(), 29);
        due.is("30th", x.bleaches(0, 6), 0);
        due.is("31st", x.bleaches(0, 6), -5);
    }

    private static void undo() {
        GallRegister x = Due.told(BOOK);
        due.is("none", x.undo(), -5);
        x.bleaches(0, 1);
        x.retraces(0, 0, 2);
        x.bleaches(0, 2);
        due.is("shade", x.shade(0, 6), 0);
        due.is("undo", x.undo(), 2);
        due.is("shade", x.shade(0, 6), 19);
        due.is("undo", x.undo(), 1);
        due.is("shade", x.shade(0, 2), 0);
        due.is("undo", x.undo(), 0);
        due.is("shade", x.shade(0, 6), 17);
        due.is("undo", x.undo(), -5);
        due.is("new undo", new GallRegister().undo(), -2);
    }

    private static void anew() {
        GallRegister x = Due.told(BOOK);
        due.is("none", x.anew(), 0);
        x.bleaches(0, 1);
        x.retraces(2, 1, 2);
        due.is("anew", x.anew(), 2);
        due.is("acts", x.count(6), 0);
        due.is("shade", x.shade(0, 6), 17);
        due.is("shade", x.shade(2, 6), 18);
        due.is("undo", x.undo(), -5);
        due.is("new anew", new GallRegister().anew(), -2);
    }

    private static void rate() {
        GallRegister x = Due.told(BOOK);
        due.is("rate", x.rate(3, 20), 3);
        due.is("says", x.entry(3, 3), 20);
        due.is("rate", x.rate(3, 0), 20);
        due.is("rate", x.rate(3, 1), 0);
        due.is("no lie", x.lies(), 2);
        int[][] none = {{4, 0}, {-1, 0}, {0, 21}, {0, -1}};
        for (int[] a : none) {
            due.is("rate(" + a[0] + ", " + a[1] + ")", x.rate(a[0], a[1]), -2);
        }
        x.bleaches(1, 0);
        due.is("there are acts", x.rate(0, 1), -5);
        due.is("none such is asked ahead", x.rate(0, 21), -2);
        due.is("none such is asked ahead", x.rate(4, 1), -2);
        due.is("says", x.entry(0, 3), 0);
        x.undo();
        due.is("taken back", x.rate(0, 1), 0);
        due.is("says", x.entry(0, 3), 1);
        due.is("wrote stays", x.entry(0, 2), 0);
        due.is("new rate", new GallRegister().rate(0, 0), -2);
    }

    private static void images() {
        GallRegister x = Due.told(BOOK);
        due.is("nothing", x.back(0), -6);
        x.rate(0, 4);
        x.bleaches(0, 1);
        x.retraces(0, 1, 3);
        due.is("image", x.image(2), 0);
        due.is("shade", x.shade(0, 6), 7);
        x.undo();
        x.bleaches(2, 6);
        x.bleaches(2, 6);
        due.is("image", x.image(0), 0);
        due.is("nothing", x.back(1), -6);
        Due.book(x, "book years 2 law 3 odds 1;page damp;");
        x.feed(0, 0, 0, 0, 0);
        Due.seen(x, 0, 1, 2, 3);
        due.is("back", x.back(2), 0);
        int[] counts = {6, 0, 5, 2, 2, 4, 2, 9, 20, 1};
        for (int what = 0; what < 10; what++) {
            due.is("count(" + what + ")", x.count(what), counts[what]);
        }
        due.is("says", x.entry(0, 3), 4);
        due.is("shade", x.shade(0, 6), 7);
        due.is("page", x.page(1), 0);
        due.is("undo", x.undo(), 1);
        due.is("shade", x.shade(0, 6), 0);
        due.is("back", x.back(0), 0);
        due.is("acts", x.count(6), 3);
        due.is("shade", x.shade(2, 6), 0);
        x.anew();
        due.is("an IMAGE stays", x.back(0), 0);
        due.is("acts", x.count(6), 3);
        due.is("back", x.back(2), 0);
        due.is("acts", x.count(6), 2);
        for (int k : new int[] {3, -1, Integer.MAX_VALUE, Integer.MIN_VALUE}) {
            due.is("image(" + k + ")", x.image(k), -2);
            due.is("back(" + k + ")", x.back(k), -2);
        }
        Due.book(x, "book");
        due.is("back keeps the FAULT", x.back(0) + x.fault(0), 1);
    }

    private static void imagesOfNoBook() {
        GallRegister x = new GallRegister();
        due.is("back of nothing", x.back(1), -6);
        due.is("image of no BOOK", x.image(1), 0);
        Due.book(x, BOOK);
        due.is("back to no BOOK", x.back(1), 0);
        due.is("lines", x.count(7), 0);
        due.is("no BOOK", x.undo(), -2);
    }
}
