/** Promises 60 to 65, 70, 71: WORTH, the GAME, CHANCE, YEARS drawn. */
final class ChanceTest {
    private static final Due due = new Due("ChanceTest");

    private static final String LINES =
            "ink rise 5 top 20 fade 1;ink rise 3 top 9 fade 2;"
            + "page damp;page;"
            + "entry on 0 in 0 wrote 0 says 0;entry on 0 in 1 wrote 2 says 1;"
            + "entry on 1 in 0 wrote 1 says 1;entry on 0 in 0 wrote 1 says 3;";

    public static void main(String[] args) {
        worth();
        share();
        gets();
        rests();
        chance();
        wetByLaws();
        mean();
        drawn();
        luck();
        noneSuch();
        due.close();
    }

    private static GallRegister register(int law, int odds) {
        return Due.told("book years 6 law " + law + " odds " + odds + ";" + LINES);
    }

    private static void worth() {
        GallRegister x = register(0, 5);
        // 17 5 18 18 in the last YEAR
        int[] want = {0, 1, 1, 2, 1, 2, 2, 3, 1, 2, 2, 3, 1, 2, 2, 3};
        for (int set = 0; set < 16; set++) {
            due.is("worth(" + set + ")", x.worth(set), want[set]);
        }
        due.is("worth(16)", x.worth(16), -2);
        due.is("worth(-1)", x.worth(-1), -2);
        due.is("worth(least)", x.worth(Integer.MIN_VALUE), -2);
        GallRegister y = Due.told("book years 2 law 0 odds 5;ink rise 2 top 2 fade 2;page;"
                + "entry on 0 in 0 wrote 0 says 0;entry on 0 in 0 wrote 3 says 0;entry on 0 in 0 wrote 1 says 0;");
        due.is("a SHADE of 0 counts", y.worth(1), 1);
        due.is("not there does not", y.worth(2), 0);
        due.is("worth of all", y.worth(7), 1);
        due.is("bare worth(0)", Due.told("book years 2 law 0 odds 5;").worth(0), 0);
        due.is("bare worth(1)", Due.told("book years 2 law 0 odds 5;").worth(1), -2);
    }

    private static void fraction(String name, long above, long below, long wantAbove, long wantBelow) {
        due.is(name + " above", above, wantAbove);
        due.is(name + " below", below, wantBelow);
    }

    private static void share() {
        GallRegister x = register(0, 5);
        int[] below = {1, 1, 2, 2};
        for (int e = 0; e < 4; e++) {
            fraction("share of " + e, x.share(e, 0), x.share(e, 1), 1, below[e]);
        }
        due.is("share(0, 2)", x.share(0, 2), -2);
        due.is("share(0, -1)", x.share(0, -1), -2);
        due.is("share(4, 0)", x.share(4, 0), -2);
        due.is("share(-1, 0)", x.share(-1, 0), -2);
        GallRegister y = Due.told("book years 2 law 0 odds 5;ink rise 9 top 9 fade 0;page;"
                + "entry on 0 in 0 wrote 3 says 0;" + "entry on 0 in 0 wrote 0 says 0;".repeat(6));
        fraction("share of none", y.share(0, 0), y.share(0, 1), 0, 1);
        fraction("share of six", y.share(3, 0), y.share(3, 1), 1, 6);
    }

    private static void gets() {
        GallRegister x = register(0, 5);
        due.is("dry or damp", x.gets(0, 1, 0, 0), 9);
        due.is("turned", x.gets(0, 1, 1, 0), 8);
        due.is("the other turned", x.gets(0, 1, 0, 1), 9);
        due.is("both turned", x.gets(1, 0, 1, 1), 2);
        due.is("the other page", x.gets(1, 0, 0, 0), 3);
        int[][] none = {{0, 0, 0, 0}, {0, 2, 0, 0}, {2, 0, 0, 0}, {-1, 0, 0, 0}, {0, -1, 0, 0},
            {0, 1, 2, 0}, {0, 1, 0, 2}, {0, 1, -1, 0}, {0, 1, 0, -1}};
        for (int[] n : none) {
            due.is("gets(" + n[0] + ", " + n[1] + ", " + n[2] + ", " + n[3] + ")", x.gets(n[0], n[1], n[2], n[3]), -1000);
        }
        due.is("the BOOK stays", x.page(0), 1);
        // By LAW 1: 14 1 18 16; dry 17 5 18 18.
        GallRegister damp = register(1, 5);
        due.is("damp", damp.gets(0, 1, 0, 0), 6);
        due.is("turned dry", damp.gets(0, 1, 1, 0), 8);
        due.is("turned damp", damp.gets(1, 0, 1, 0), 2);
        GallRegister bare = Due.told("book years 2 law 0 odds 5;page;page;");
        due.is("below 0", bare.gets(0, 1, 1, 0), -1);
        due.is("nothing", bare.gets(0, 1, 0, 1), 0);
    }

    private static void rests() {
        due.is("law 0 rests", register(0, 5).rests(0, 1), 1);
        GallRegister x = register(1, 5);
        due.is("law 1 rests", x.rests(0, 1), 2);
        due.is("law 1 rests", x.rests(1, 0), 4);
        int[][] none = {{0, 0}, {1, 1}, {0, 2}, {2, 0}, {-1, 0}, {0, -1}};
        for (int[] n : none) {
            due.is("rests(" + n[0] + ", " + n[1] + ")", x.rests(n[0], n[1]), -2);
        }
        GallRegister both = Due.told("book years 3 law 1 odds 5;ink rise 9 top 9 fade 2;page damp;page damp;page;"
                + "entry on 0 in 0 wrote 1 says 0;entry on 1 in 0 wrote 1 says 0;");
        due.is("both", both.rests(0, 1), 8);
        due.is("the first", both.rests(0, 2), 2);
        due.is("the other", both.rests(2, 1), 4);
    }

    private static void chance() {
        GallRegister x = register(0, 5);
        int[][] want = {
            // 20 in YEAR 3, then by 1 or by 3
            {0, 3, 20, 1, 1}, {0, 3, 21, 0, 1}, {0, 4, 19, 1, 2}, {0, 4, 17, 1, 1}, {0, 4, 18, 1, 2}, {0, 4, 20, 0, 1},
            {0, 5, 18, 1, 4}, {0, 5, 16, 3, 4}, {0, 5, 14, 1, 1}, {0, 6, 17, 1, 8}, {0, 6, 15, 1, 2}, {0, 6, 13, 7, 8},
            {0, 6, 11, 1, 1}, {0, 6, 0, 1, 1}, {0, 6, 60, 0, 1}, {1, 1, 0, 1, 1}, {1, 1, 1, 0, 1}, {1, 6, 5, 1, 4}, {1, 6, 2, 3, 4}};
        for (int[] w : want) {
            fraction("chance(" + w[0] + ", " + w[1] + ", " + w[2] + ")",
                    x.chance(w[0], w[1], w[2], 0), x.chance(w[0], w[1], w[2], 1), w[3], w[4]);
        }
        int[][] none = {{4, 1, 0, 0}, {-1, 1, 0, 0}, {0, 0, 0, 0}, {0, 7, 0, 0}, {0, -1, 0, 0}, {0, 1, 61, 0}, {0, 1, -1, 0}, {0, 1, 0, 2}, {0, 1, 0, -1}};
        for (int[] n : none) {
            due.is("chance(" + n[0] + ", " + n[1] + ", " + n[2] + ", " + n[3] + ")", x.chance(n[0], n[1], n[2], n[3]), -2);
        }
        GallRegister three = register(0, 3);
        fraction("odds 3", three.chance(0, 6, 17, 0), three.chance(0, 6, 17, 1), 343, 1000);
        fraction("odds 3", three.chance(0, 6, 13, 0), three.chance(0, 6, 13, 1), 973, 1000);
        fraction("odds 0", register(0, 0).chance(0, 6, 17, 0), register(0, 0).chance(0, 6, 17, 1), 1, 1);
        fraction("odds 10", register(0, 10).chance(0, 6, 11, 0), register(0, 10).chance(0, 6, 12, 0), 1, 0);
        x.bleaches(0, 4);
        fraction("acts as they are", x.chance(0, 5, 8, 0), x.chance(0, 5, 8, 1), 1, 4);
        GallRegister far = Due.told("book years 20 law 0 odds 1;ink rise 20 top 60 fade 9;ink rise 20 top 20 fade 0;page;"
                + "entry on 0 in 1 wrote 0 says 0;entry on 0 in 0 wrote 0 says 0;");
        // Less by 2 in each WET YEAR of 8: none of them is.
        fraction("eight YEARS", far.chance(0, 8, 20, 0), far.chance(0, 8, 20, 1), 43046721, 100000000);
        due.is("nine YEARS", far.chance(0, 9, 20, 0), -2);
        due.is("nine YEARS", far.mean(9, 0), -2);
    }

    private static void wetByLaws() {
        GallRegister damp = register(1, 5);
        // 20 in YEAR 3, then by 2 or by 4
        fraction("damp", damp.chance(0, 4, 17, 0), damp.chance(0, 4, 17, 1), 1, 2);
        fraction("damp", damp.chance(0, 4, 16, 0), damp.chance(0, 4, 16, 1), 1, 1);
        GallRegister odd = register(3, 5);
        // 19 or 17 in YEAR 4 and 5, not less in 5
        fraction("law 3", odd.chance(0, 5, 19, 0), odd.chance(0, 5, 19, 1), 1, 2);
        fraction("law 3", odd.chance(0, 5, 17, 0), odd.chance(0, 5, 17, 1), 1, 1);
        fraction("law 3", odd.chance(0, 6, 18, 0), odd.chance(0, 6, 18, 1), 1, 4);
        String pale = "ink rise 20 top 20 fade 0;ink rise 1 top 1 fade 1;page;page;"
                + "entry on 0 in 0 wrote 0 says 0;entry on 1 in 1 wrote 0 says 0;";
        GallRegister facing = Due.told("book years 3 law 2 odds 5;" + pale);
        fraction("ahead of what LAW 2 has more", facing.chance(1, 3, 1, 0), facing.chance(1, 3, 1, 1), 1, 1);
        fraction("and no more", facing.chance(1, 3, 2, 0), facing.chance(1, 3, 2, 1), 0, 1);
        fraction("by 0 too", facing.chance(0, 3, 16, 0), facing.chance(0, 3, 16, 1), 7, 8);
        GallRegister low = Due.told("book years 3 law 0 odds 5;" + pale);
        fraction("0 at least", low.chance(1, 3, 0, 0), low.chance(1, 3, 0, 1), 1, 1);
        fraction("mean, 0 at least", low.mean(1, 0), low.mean(1, 1), 19, 1);
    }

    private static void mean() {
        GallRegister x = register(0, 5);
        long[][] want = {{20, 1}, {38, 1}, {56, 1}, {67, 1}, {58, 1}, {49, 1}};
        for (int year = 1; year <= 6; year++) {
            fraction("mean(" + year + ")", x.mean(year, 0), x.mean(year, 1), want[year - 1][0], want[year - 1][1]);
        }
        fraction("odds 1", register(0, 1).mean(4, 0), register(0, 1).mean(4, 1), 339, 5);
        fraction("odds 0", register(0, 0).mean(6, 0), register(0, 0).mean(6, 1), 58, 1);
        fraction("odds 10", register(0, 10).mean(4, 0), register(0, 10).mean(4, 1), 66, 1);
        due.is("mean(0)", x.mean(0, 0), -2);
        due.is("mean(7)", x.mean(7, 0), -2);
        due.is("mean(-1)", x.mean(-1, 0), -2);
        due.is("mean(1, 2)", x.mean(1, 2), -2);
        due.is("mean(1, -1)", x.mean(1, -1), -2);
        GallRegister bare = Due.told("book years 2 law 0 odds 5;");
        fraction("bare mean", bare.mean(2, 0), bare.mean(2, 1), 0, 1);
        // SHADES of 1, 0 at least: seven of them are 1 as long as it was never WET, 9 in ten each YEAR.
        GallRegister seven = Due.told("book years 8 law 0 odds 1;ink rise 1 top 1 fade 0;page;" + "entry on 0 in 0 wrote 0 says 0;".repeat(7));
        fraction("mean beyond int", seven.mean(8, 0), seven.mean(8, 1), 301327047L, 100000000L);
        // All together seven times 60, less 2 in each WET YEAR behind 2: 420 less 14 and so on.
        GallRegister most = Due.told("book years 8 law 0 odds 3;ink rise 20 top 60 fade 0;page;" + "entry on 0 in 0 wrote 0 says 0;".repeat(7));
        fraction("mean of most", most.mean(8, 0), most.mean(8, 1), 1974, 5);
        GallRegister large = Due.told("book years 8 law 0 odds 1;ink rise 1 top 1 fade 0;ink rise 20 top 60 fade 0;page;"
                + "entry on 0 in 0 wrote 0 says 0;" + "entry on 0 in 1 wrote 6 says 0;".repeat(6));
        fraction("mean beyond int", large.mean(8, 0), large.mean(8, 1), 36043046721L, 100000000L);
    }

    private static GallRegister spotted(int odds) {
        return Due.told("book years 6 law 0 odds " + odds + ";ink rise 9 top 9 fade 0;ink rise 3 top 5 fade 0;page;"
                + "entry on 0 in 0 wrote 0 says 0;entry on 0 in 1 wrote 0 says 0;");
    }

    private static void drawn() {
        GallRegister x = spotted(5);
        // 0 8 8 7 8 7; 8 8 3 5 1 7; ..: one that has 9 is less by 2 in each, one of 5 (in YEAR 1) is not in the first.
        int[][] want = {{0, 1, 3}, {1, 20, 1}, {2, 8, 1}, {3, 24, 1}, {4, 12, 1}, {5, 48, 1}, {6, 4, 1}, {7, 25, 0},
            {1999999999, 51, 0}, {2000000000, 39, 0}};
        for (int[] w : want) {
            due.is("drawn(" + w[0] + ", 0)", x.drawn(w[0], 0), w[1]);
            due.is("drawn(" + w[0] + ", 1)", x.drawn(w[0], 1), w[2]);
        }
        due.is("drawn(-1, 0)", x.drawn(-1, 0), -2);
        due.is("drawn(2000000001, 0)", x.drawn(2000000001, 0), -2);
        due.is("drawn(0, 2)", x.drawn(0, 2), -2);
        due.is("drawn(0, -1)", x.drawn(0, -1), -2);
        due.is("SHADES stay", x.shade(0, 6), 9);
        due.is("odds 0", spotted(0).drawn(7, 0), 0);
        due.is("odds 10", spotted(10).drawn(7, 0), 63);
        GallRegister far = Due.told("book years 20 law 0 odds 3;");
        int[] bits = {790401, 8528, 101120, 98584, 3468, 86784, 8196, 823440};
        for (int seed = 0; seed < 8; seed++) {
            due.is("twenty of " + seed, far.drawn(seed, 0), bits[seed]);
        }
        x.bleaches(0, 0);
        due.is("acts as they are", x.drawn(0, 1), 2);
    }

    private static void luck() {
        GallRegister x = spotted(5);
        int[][] want = {{0, 8, 0, 7}, {0, 7, 0, 7}, {0, 1, 0, 1}, {7, 1, 0, 0}, {0, 8, 1, 1}, {0, 1, 1, 1}, {1, 7, 1, 0}, {1999999999, 2, 0, 0},
            {2000000000, 2, 0, 0},
            {0, 0, 0, -2}, {0, 21, 0, -2}, {0, -1, 0, -2}, {-1, 1, 0, -2}, {2000000001, 1, 0, -2}, {0, 1, 2, -2}, {0, 1, -1, -2}};
        for (int[] w : want) {
            due.is("luck(" + w[0] + ", " + w[1] + ", " + w[2] + ")", x.luck(w[0], w[1], w[2]), w[3]);
        }
        due.is("twenty of odds 0", spotted(0).luck(2000000000, 20, 0), 20);
        due.is("twenty of odds 10", spotted(10).luck(0, 20, 0), 0);
    }

    private static void noneSuch() {
        GallRegister x = new GallRegister();
        due.is("new worth", x.worth(0), -2);
        due.is("new share", x.share(0, 0), -2);
        due.is("new rests", x.rests(0, 1), -2);
        due.is("new gets", x.gets(0, 1, 0, 0), -1000);
        due.is("new chance", x.chance(0, 1, 0, 0), -2);
        due.is("new mean", x.mean(1, 0), -2);
        due.is("new drawn", x.drawn(0, 0), -2);
        due.is("new luck", x.luck(0, 1, 0), -2);
    }
}
