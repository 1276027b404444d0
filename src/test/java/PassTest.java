/** Promises 28 to 31, 50: which ENTRIES PASS, and of what YEAR one can be. */
final class PassTest {
    private static final Due due = new Due("PassTest");

    private static final String LINES =
            "ink rise 5 top 20 fade 1;ink rise 3 top 9 fade 2;"
            + "page damp;page;"
            + "entry on 0 in 0 wrote 0 says 0;entry on 0 in 1 wrote 2 says 1;"
            + "entry on 1 in 0 wrote 1 says 1;entry on 0 in 0 wrote 1 says 3;";

    public static void main(String[] args) {
        ofTheSample();
        byEachLaw();
        withoutActs();
        noWholeBook();
        ages();
        due.close();
    }

    private static GallRegister register(int law) {
        return Due.told("book years 6 law " + law + " odds 5;" + LINES);
    }

    private static void ofTheSample() {
        GallRegister x = register(0);
        int[][] passes = {{1, 1, 1, 1, 1, 1, 1}, {3, 0, 0, 0, 0, 0, 0}, {3, 1, 1, 1, 1, 1, 1}, {3, 0, 0, 0, 0, 0, 0}};
        for (int e = 0; e < 4; e++) {
            for (int year = 0; year < 7; year++) {
                due.is("passes(" + e + ", " + year + ")", x.passes(e, year), passes[e][year]);
            }
        }
        int[] suspects = {0, 8, 10, 10, 10, 10, 10};
        int[] honest = {1, 5, 5, 5, 5, 5, 5};
        int[] betrayed = {-1, 2, -1, 1};
        for (int year = 0; year < 7; year++) {
            due.is("suspects(" + year + ")", x.suspects(year), suspects[year]);
            due.is("honest(" + year + ")", x.honest(year), honest[year]);
        }
        for (int e = 0; e < 4; e++) {
            due.is("betrayed(" + e + ")", x.betrayed(e), betrayed[e]);
        }
        int[][] none = {{4, 0}, {-1, 0}, {0, 7}, {0, -1}};
        for (int[] at : none) {
            due.is("passes(" + at[0] + ", " + at[1] + ")", x.passes(at[0], at[1]), -2);
        }
        due.is("suspects(7)", x.suspects(7), -2);
        due.is("suspects(-1)", x.suspects(-1), -2);
        due.is("honest(7)", x.honest(7), -2);
        due.is("honest(-1)", x.honest(-1), -2);
        due.is("betrayed(4)", x.betrayed(4), -2);
        due.is("betrayed(-1)", x.betrayed(-1), -2);
        due.is("rate", x.rate(3, 1), 3);
        due.is("passes as it says now", x.passes(3, 4), 1);
        due.is("betrayed no more", x.betrayed(3), -1);
    }

    private static void byEachLaw() {
        // LAW 1: on the damp page both fade twice; LAW 3: not in odd YEARS.
        for (int law = 0; law < 4; law++) {
            GallRegister x = register(law);
            for (int year = 0; year < 7; year++) {
                due.is("law " + law + " honest(" + year + ")", x.honest(year), year == 0 ? 1 : 5);
            }
        }
        // By LAW 2 one that has more by its facing one is betrayed.
        String lines = "ink rise 20 top 30 fade 0;ink rise 1 top 2 fade 1;page;page;"
                + "entry on 0 in 0 wrote 0 says 0;entry on 1 in 1 wrote 0 says 0;";
        GallRegister x = Due.told("book years 3 law 2 odds 5;" + lines);
        due.is("shade by law 2", x.shade(1, 1), 3);
        due.is("betrayed by law 2", x.betrayed(1), 1);
        due.is("honest by law 2", x.honest(1), 1);
        due.is("betrayed by law 0", Due.told("book years 3 law 0 odds 5;" + lines).betrayed(1), -1);
    }

    private static void withoutActs() {
        GallRegister x = register(0);
        x.retraces(0, 1, 0);
        due.is("passes by the other ink", x.passes(0, 0), 2);
        due.is("passes by the other ink", x.passes(0, 5), 2);
        due.is("not honest", x.honest(0), 0);
        due.is("no suspect", x.suspects(0), 0);
        due.is("not betrayed", x.betrayed(0), -1);
        x.bleaches(0, 1);
        due.is("betrayed", x.betrayed(0), 1);
        due.is("suspects", x.suspects(1), 9);
    }

    private static void noWholeBook() {
        GallRegister x = Due.told("book years 3 law 0 odds 5;ink rise 2 top 2 fade 2;ink rise 9 top 9 fade 0;page;"
                + "entry on 0 in 0 wrote 20 says 1;entry on 0 in 0 wrote 0 says 9;");
        // Not there, 0: the one that it says has 0 2 0 0 and 0 9 9 9.
        int[] passes = {3, 0, 1, 1};
        for (int year = 0; year < 4; year++) {
            due.is("not there passes(0, " + year + ")", x.passes(0, year), passes[year]);
        }
        due.is("betrayed, never there", x.betrayed(0), -1);
        due.is("suspects, not there", x.suspects(1), 0);
        due.is("honest, not there", x.honest(2), 2);
        due.is("says a YEAR to come", x.passes(1, 0), 0);
        due.is("says a YEAR to come", x.passes(1, 1), 3);
        GallRegister none = new GallRegister();
        due.is("new passes", none.passes(0, 0), -2);
        due.is("new suspects", none.suspects(0), -2);
        due.is("new betrayed", none.betrayed(0), -2);
        due.is("new honest", none.honest(0), -2);
        due.is("new ages", none.ages(0, 0, 1, 0), -2);
    }

    private static void ages() {
        GallRegister x = register(0);
        x.bleaches(0, 0);
        int[][] want = {{0, 0, 18, 6, 2}, {0, 0, 5, 6, 64}, {0, 1, 20, 6, 8}, {1, 0, 3, 6, 66}, {1, 1, 1, 6, 1},
            {0, 0, 11, 6, 0}, {0, 0, 60, 6, 0}, {0, 0, 5, 0, 1}, {0, 0, 10, 1, 1}, {0, 0, 5, 1, 2},
            {2, 0, 5, 6, -2}, {-1, 0, 5, 6, -2}, {0, 2, 5, 6, -2}, {0, -1, 5, 6, -2},
            {0, 0, 0, 6, -2}, {0, 0, 61, 6, -2}, {0, 0, -1, 6, -2}, {0, 0, 5, 7, -2}, {0, 0, 5, -1, -2}};
        for (int[] a : want) {
            due.is("ages(" + a[0] + ", " + a[1] + ", " + a[2] + ", " + a[3] + ")", x.ages(a[0], a[1], a[2], a[3]), a[4]);
        }
        GallRegister damp = register(1);
        due.is("damp ages", damp.ages(0, 0, 18, 6), 4);
        due.is("dry ages", damp.ages(0, 1, 18, 6), 2);
        due.is("law 3 ages", register(3).ages(0, 0, 19, 6), 2 + 4);
        // 60 of one that stays there.
        GallRegister full = Due.told("book years 20 law 0 odds 0;ink rise 20 top 60 fade 0;page;");
        due.is("full ages", full.ages(0, 0, 60, 20), (1 << 19) - 1);
        due.is("full ages", full.ages(0, 0, 40, 20), 1 << 19);
        due.is("full ages", full.ages(0, 0, 20, 20), 1 << 20);
    }
}
