/** Promises 11 to 27, 41 to 49, 51 to 54: SHADES as they come by a LAW. */
final class ShadeTest {
    private static final Due due = new Due("ShadeTest");

    private static final String LINES =
            "ink rise 5 top 20 fade 1;ink rise 3 top 9 fade 2;"
            + "page damp;page;"
            + "entry on 0 in 0 wrote 0 says 0;entry on 0 in 1 wrote 2 says 1;"
            + "entry on 1 in 0 wrote 1 says 1;entry on 0 in 0 wrote 1 says 3;";

    private static final int[][] SO = {
        {5, 10, 15, 20, 19, 18, 17}, {0, 0, 3, 6, 9, 7, 5}, {0, 5, 10, 15, 20, 19, 18}, {0, 5, 10, 15, 20, 19, 18}};

    public static void main(String[] args) {
        byYear();
        laws();
        facingLaw();
        edgesOfInks();
        actsInTheirOrder();
        ofOne();
        ofTwo();
        ofAYear();
        ofPages();
        asTold();
        noneThere();
        noneSuch();
        due.close();
    }

    private static String head(int years, int law) {
        return "book years " + years + " law " + law + " odds 5;";
    }

    private static GallRegister register(int law) {
        return Due.told(head(6, law) + LINES);
    }

    private static void shades(String name, GallRegister x, int entry, int... want) {
        for (int year = 0; year < want.length; year++) {
            due.is(name + " shade(" + entry + ", " + year + ")", x.shade(entry, year), want[year]);
        }
    }

    private static void byYear() {
        GallRegister x = register(0);
        for (int e = 0; e < 4; e++) {
            shades("law 0", x, e, SO[e]);
        }
        due.is("shade(4, 0)", x.shade(4, 0), -2);
        due.is("shade(0, 7)", x.shade(0, 7), -2);
        due.is("shade(0, -1)", x.shade(0, -1), -2);
        due.is("shade(-1, 0)", x.shade(-1, 0), -2);
    }

    private static void laws() {
        GallRegister damp = register(1);
        shades("law 1", damp, 0, 5, 10, 15, 20, 18, 16, 14);
        shades("law 1", damp, 1, 0, 0, 3, 6, 9, 5, 1);
        shades("law 1", damp, 2, SO[2]);
        GallRegister odd = register(3);
        shades("law 3", odd, 0, 5, 10, 15, 20, 19, 19, 18);
        shades("law 3", odd, 1, 0, 0, 3, 6, 9, 9, 7);
        shades("law 3", odd, 2, 0, 5, 10, 15, 20, 20, 19);
        GallRegister twice = Due.told(head(5, 1) + "ink rise 9 top 9 fade 4;page damp;entry on 0 in 0 wrote 0 says 0;");
        shades("0 at least", twice, 0, 9, 1, 0, 0, 0, 0);
    }

    private static void facingLaw() {
        // Entry 0 is dark at once, its facing one comes in YEAR 2, when 0 has 30.
        GallRegister x = Due.told(head(8, 2) + "ink rise 20 top 30 fade 0;ink rise 1 top 2 fade 1;ink rise 1 top 60 fade 0;"
                + "page;page;entry on 0 in 0 wrote 0 says 0;entry on 1 in 1 wrote 2 says 0;"
                + "entry on 0 in 0 wrote 0 says 0;entry on 1 in 2 wrote 0 says 0;");
        shades("the dark one", x, 0, 20, 30, 30, 30, 30, 30, 30, 30, 30);
        // YEAR 3: it rises to 2 and has 1 more; then 1 less and 1 more.
        shades("the pale one", x, 1, 0, 0, 1, 3, 3, 3, 3, 3, 3);
        // It rises by 1 and has 1 more while it RISES.
        shades("a rising one", x, 3, 1, 3, 5, 7, 9, 11, 13, 15, 17);
        due.is("it rises on", x.rising(8), 8);
        // Below 10 there is nothing more: 20 and 11, then 20 and 10.
        GallRegister near = Due.told(head(3, 2) + "ink rise 20 top 20 fade 0;ink rise 11 top 11 fade 1;"
                + "page;page;page;page;entry on 2 in 0 wrote 0 says 0;entry on 3 in 1 wrote 0 says 0;");
        shades("9 and 10 less", near, 1, 11, 10, 10, 10);
        // A facing one that is not there in the YEAR ahead gives nothing in its first.
        GallRegister late = Due.told(head(3, 2) + "ink rise 20 top 20 fade 0;ink rise 1 top 1 fade 1;"
                + "page;page;entry on 0 in 0 wrote 1 says 0;entry on 1 in 1 wrote 0 says 0;");
        shades("a late facing one", late, 1, 1, 0, 1, 1);
        // One that comes this YEAR has no more by a facing one of the YEAR ahead.
        GallRegister fresh = Due.told(head(3, 2) + "ink rise 20 top 20 fade 0;ink rise 1 top 1 fade 1;"
                + "page;page;entry on 0 in 0 wrote 0 says 0;entry on 1 in 1 wrote 1 says 0;");
        shades("a fresh one", fresh, 1, 0, 1, 1, 1);
        // SHADE of the YEAR ahead counts, as it was behind its acts.
        fresh.bleaches(0, 1);
        shades("behind an act", fresh, 1, 0, 1, 0, 1);
        GallRegister none = Due.told(head(3, 0) + "ink rise 20 top 20 fade 0;ink rise 1 top 1 fade 1;"
                + "page;page;entry on 0 in 0 wrote 0 says 0;entry on 1 in 1 wrote 0 says 0;");
        shades("law 0", none, 1, 1, 0, 0, 0);
    }

    private static void edgesOfInks() {
        GallRegister x = Due.told(head(4, 0) + "ink rise 20 top 7 fade 3;ink rise 7 top 20 fade 9;ink rise 20 top 60 fade 0;"
                + "page;entry on 0 in 0 wrote 0 says 0;entry on 0 in 1 wrote 0 says 0;entry on 0 in 2 wrote 0 says 0;"
                + "entry on 0 in 2 wrote 5 says 0;entry on 0 in 2 wrote 4 says 0;");
        shades("top below rise", x, 0, 7, 4, 1, 0, 0);
        shades("top at most", x, 1, 7, 14, 20, 11, 2);
        shades("no fade", x, 2, 20, 40, 60, 60, 60);
        shades("never there", x, 3, 0, 0, 0, 0, 0);
        shades("there at last", x, 4, 0, 0, 0, 0, 20);
        due.is("rising(0)", x.rising(0), 6);
        due.is("rising(1)", x.rising(1), 6);
        due.is("rising(2)", x.rising(2), 0);
        due.is("rising(4)", x.rising(4), 16);
    }

    private static void actsInTheirOrder() {
        GallRegister x = register(0);
        due.is("bleached", x.bleaches(0, 1), 0);
        shades("bleached", x, 0, 5, 0, 0, 0, 0, 0, 0);
        due.is("rises no more", x.rising(1), 12);
        due.is("retraced behind", x.retraces(0, 1, 1), 3);
        shades("retraced behind", x, 0, 5, 3, 6, 9, 7, 5, 3);
        due.is("rises again", x.rising(1), 13);
        due.is("bleached behind", x.bleaches(0, 1), 0);
        shades("bleached behind", x, 0, 5, 0, 0, 0, 0, 0, 0);
        x.anew();
        // In the YEAR in which it is written, and ahead of it.
        due.is("ahead of it", x.bleaches(1, 1), 5);
        shades("ahead of it", x, 1, SO[1]);
        due.is("in its first", x.bleaches(1, 2), 0);
        shades("in its first", x, 1, 0, 0, 0, 0, 0, 0, 0);
        due.is("retraced from then on", x.retraces(1, 0, 4), 15);
        shades("retraced from then on", x, 1, 0, 0, 0, 0, 5, 10, 15);
        x.anew();
        due.is("one that falls, bleached", x.bleaches(0, 4), 7);
        shades("one that falls", x, 0, 5, 10, 15, 20, 9, 8, 7);
        due.is("one that rises, bleached", x.bleaches(2, 3), 2);
        shades("one that rises", x, 2, 0, 5, 10, 5, 4, 3, 2);
    }

    private static void ofOne() {
        GallRegister x = register(0);
        int[][] want = {{20, 3, -1, 1, 3, 7}, {9, 4, -1, 1, 2, 4}, {20, 4, -1, 1, 2, 6}, {20, 4, -1, 1, 2, 6},
            {-2, -2, -2, -2, -2, -2}};
        for (int e = 0; e < 5; e++) {
            one("", x, e, want[e]);
        }
        one("", x, -1, want[4]);
        x.bleaches(0, 0);
        one("bleached at once", x, 0, 0, 0, 0, 7, 0, 0);
        x.bleaches(1, 4);
        one("bleached later", x, 1, 6, 3, 4, 3, 1, 1);
        x.retraces(3, 1, 6);
        one("retraced at last", x, 3, 20, 4, -1, 1, 2, 5);
        GallRegister y = Due.told(head(6, 0) + "ink rise 5 top 5 fade 0;ink rise 4 top 4 fade 2;page;"
                + "entry on 0 in 0 wrote 2 says 0;entry on 0 in 1 wrote 3 says 0;entry on 0 in 0 wrote 7 says 0;");
        one("it stays", y, 0, 5, 2, -1, 5, 0, 5);
        one("it falls to 0", y, 1, 4, 3, 5, 2, 2, 0);
        one("never there", y, 2, 0, 0, -1, 0, 0, 0);
    }

    private static void one(String name, GallRegister x, int e, int... want) {
        due.is(name + " peak(" + e + ")", x.peak(e), want[0]);
        due.is(name + " ripe(" + e + ")", x.ripe(e), want[1]);
        due.is(name + " blank(" + e + ")", x.blank(e), want[2]);
        due.is(name + " steady(" + e + ")", x.steady(e), want[3]);
        due.is(name + " falls(" + e + ")", x.falls(e), want[4]);
        due.is(name + " lasts(" + e + ")", x.lasts(e), want[5]);
    }

    private static void ofTwo() {
        GallRegister x = register(0);
        two(x, 0, 2, 1, 1, 0);
        two(x, 2, 0, 4, 1, 0);
        two(x, 1, 0, -1, 0, 0);
        two(x, 0, 1, 2, 0, 0);
        two(x, 2, 3, -1, 0, 6);
        two(x, 0, 0, -1, 0, 7);
        int[][] none = {{0, 4}, {4, 0}, {-1, 0}, {0, -1}};
        for (int[] pair : none) {
            two(x, pair[0], pair[1], -2, -2, -2);
        }
        // SHADES 5 10 10 10 and - 7 9 .. : like SHADES are a third case.
        GallRegister y = Due.told(head(5, 0) + "ink rise 5 top 10 fade 0;ink rise 9 top 10 fade 0;ink rise 4 top 12 fade 0;page;"
                + "entry on 0 in 0 wrote 0 says 0;entry on 0 in 1 wrote 1 says 0;entry on 0 in 2 wrote 1 says 0;");
        two(y, 0, 1, 1, 1, 4);
        two(y, 1, 0, -1, 1, 4);
        two(y, 0, 2, 1, 1, 0);
        two(y, 2, 0, 3, 1, 0);
        two(y, 1, 2, 1, 1, 0);
    }

    private static void two(GallRegister x, int entry, int other, int cross, int swaps, int match) {
        String pair = "(" + entry + ", " + other + ")";
        due.is("cross" + pair, x.cross(entry, other), cross);
        due.is("swaps" + pair, x.swaps(entry, other), swaps);
        due.is("match" + pair, x.match(entry, other), match);
    }

    private static void ofAYear() {
        GallRegister x = register(0);
        int[][] want = {
            // there, clear, all, darkest, palest, sorts, alike, rising, paling, spread, newest, oldest
            {1, 1, 5, 0, 0, 1, 0, 1, 0, 0, 0, 0},
            {13, 13, 20, 0, 2, 2, 1, 13, 0, 5, 2, 0},
            {15, 13, 38, 0, 1, 3, 1, 15, 0, 12, 1, 0},
            {15, 15, 56, 0, 1, 3, 1, 14, 0, 14, 1, 0},
            {15, 15, 68, 2, 1, 3, 1, 0, 1, 11, 1, 0},
            {15, 15, 63, 2, 1, 3, 1, 0, 15, 12, 1, 0},
            {15, 15, 58, 2, 1, 3, 1, 0, 15, 13, 1, 0}};
        for (int year = 0; year < 7; year++) {
            year(x, year, want[year]);
        }
        int[] none = {-2, -2, -2, -2, -2, -2, -2, -2, -2, -2, -2, -2};
        year(x, 7, none);
        year(x, -1, none);
        due.is("peaks()", x.peaks(), 4);
        due.is("peaks(), the first", Due.told(head(4, 0) + "ink rise 5 top 10 fade 0;page;entry on 0 in 0 wrote 1 says 0;").peaks(), 2);
        x.retraces(2, 1, 5);
        due.is("paling by an act", x.paling(5), 15);
        due.is("rising by an act", x.rising(5), 4);
        due.is("paling behind it", x.paling(6), 11);
    }

    private static void year(GallRegister x, int year, int... want) {
        String at = "(" + year + ")";
        due.is("there" + at, x.there(year), want[0]);
        due.is("clear" + at, x.clear(year), want[1]);
        due.is("all" + at, x.all(year), want[2]);
        due.is("darkest" + at, x.darkest(year), want[3]);
        due.is("palest" + at, x.palest(year), want[4]);
        due.is("sorts" + at, x.sorts(year), want[5]);
        due.is("alike" + at, x.alike(year), want[6]);
        due.is("rising" + at, x.rising(year), want[7]);
        due.is("paling" + at, x.paling(year), want[8]);
        due.is("spread" + at, x.spread(year), want[9]);
        due.is("newest" + at, x.newest(year), want[10]);
        due.is("oldest" + at, x.oldest(year), want[11]);
    }

    private static void ofPages() {
        GallRegister x = register(0);
        int[] bold = {0, 0, 0, 0, 3, 3, 3};
        int[] sum = {5, 15, 28, 41, 48, 44, 40};
        for (int year = 0; year < 7; year++) {
            due.is("bold(0, " + year + ")", x.bold(0, year), bold[year]);
            due.is("sum(0, " + year + ")", x.sum(0, year), sum[year]);
            due.is("bold(1, " + year + ")", x.bold(1, year), year == 0 ? -1 : 2);
            due.is("sum(1, " + year + ")", x.sum(1, year), SO[2][year]);
        }
        int[][] none = {{2, 0}, {-1, 0}, {0, 7}, {0, -1}};
        for (int[] at : none) {
            due.is("bold(" + at[0] + ", " + at[1] + ")", x.bold(at[0], at[1]), -2);
            due.is("sum(" + at[0] + ", " + at[1] + ")", x.sum(at[0], at[1]), -2);
        }
        due.is("order(0)", x.order(0), 0);
        due.is("order(1)", x.order(1), 1);
        due.is("order(2)", x.order(2), -2);
        due.is("order(-1)", x.order(-1), -2);
        GallRegister like = Due.told(head(2, 0) + "ink rise 5 top 9 fade 0;page;page;"
                + "entry on 0 in 0 wrote 1 says 0;entry on 0 in 0 wrote 1 says 0;entry on 0 in 0 wrote 20 says 0;");
        due.is("order of like YEARS", like.order(0), 1);
        due.is("put of like YEARS", like.put(), 0);
        due.is("order of an empty page", like.order(1), 1);
        due.is("bold, the first", like.bold(0, 1), 0);
    }

    private static void asTold() {
        GallRegister x = register(0);
        due.is("put()", x.put(), 2);
        due.is("lies()", x.lies(), 10);
        due.is("uses(0)", x.uses(0), 13);
        due.is("uses(1)", x.uses(1), 2);
        due.is("uses(2)", x.uses(2), -2);
        due.is("uses(-1)", x.uses(-1), -2);
        x.retraces(0, 1, 0);
        due.is("uses(1), as told", x.uses(1), 2);
        int[][] ages = {{0, 0, 0}, {0, 6, 6}, {1, 1, -1}, {1, 2, 0}, {1, 6, 4}, {2, 0, -1}, {4, 0, -2}, {-1, 0, -2}, {0, 7, -2}, {0, -1, -2}};
        for (int[] a : ages) {
            due.is("age(" + a[0] + ", " + a[1] + ")", x.age(a[0], a[1]), a[2]);
        }
        // 5 1 3 1 on one page: the first by 1, the third by the last 1; one never there counts as told.
        GallRegister y = Due.told(head(2, 0) + "ink rise 5 top 9 fade 0;page;page;"
                + "entry on 0 in 0 wrote 5 says 5;entry on 1 in 0 wrote 9 says 9;entry on 0 in 0 wrote 1 says 1;"
                + "entry on 0 in 0 wrote 3 says 20;entry on 0 in 0 wrote 1 says 0;entry on 1 in 0 wrote 8 says 8;");
        due.is("put()", y.put(), 1 + 2 + 8);
        due.is("lies()", y.lies(), 8 + 16);
    }

    private static void noneThere() {
        GallRegister x = Due.told(head(3, 0) + "ink rise 5 top 9 fade 0;page;entry on 0 in 0 wrote 2 says 0;");
        year(x, 1, 0, 0, 0, -1, -1, 0, 0, 0, 0, 0, -1, -1);
        GallRegister bare = Due.told(head(3, 0));
        year(bare, 3, 0, 0, 0, -1, -1, 0, 0, 0, 0, 0, -1, -1);
        due.is("bare peaks()", bare.peaks(), 0);
        due.is("bare put()", bare.put(), 0);
        due.is("bare lies()", bare.lies(), 0);
    }

    private static void noneSuch() {
        GallRegister x = new GallRegister();
        year(x, 0, -2, -2, -2, -2, -2, -2, -2, -2, -2, -2, -2, -2);
        one("new", x, 0, -2, -2, -2, -2, -2, -2);
        two(x, 0, 1, -2, -2, -2);
        due.is("new peaks()", x.peaks(), -2);
        due.is("new put()", x.put(), -2);
        due.is("new lies()", x.lies(), -2);
        due.is("new shade(0, 0)", x.shade(0, 0), -2);
        due.is("new bold(0, 0)", x.bold(0, 0), -2);
        due.is("new sum(0, 0)", x.sum(0, 0), -2);
        due.is("new order(0)", x.order(0), -2);
        due.is("new uses(0)", x.uses(0), -2);
        due.is("new age(0, 0)", x.age(0, 0), -2);
    }
}
