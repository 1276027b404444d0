/** Promises 39, 40, 55 to 59: what would be by another LAW, YEAR, INK, or by acts. */
final class WouldTest {
    private static final Due due = new Due("WouldTest");

    private static final String LINES =
            "ink rise 5 top 20 fade 1;ink rise 3 top 9 fade 2;"
            + "page damp;page;"
            + "entry on 0 in 0 wrote 0 says 0;entry on 0 in 1 wrote 2 says 1;"
            + "entry on 1 in 0 wrote 1 says 1;entry on 0 in 0 wrote 1 says 3;";

    public static void main(String[] args) {
        laws();
        later();
        other();
        hide();
        save();
        heavy();
        notWet();
        noneSuch();
        due.close();
    }

    private static GallRegister register(int law) {
        return Due.told("book years 6 law " + law + " odds 5;" + LINES);
    }

    private static void laws() {
        int[] by = {58, 49, 58, 63};
        for (int law = 0; law < 4; law++) {
            GallRegister x = register(law);
            for (int other = 0; other < 4; other++) {
                due.is("by(" + other + ") of law " + law, x.by(other), by[other]);
            }
            due.is("law() of law " + law, x.law(), 3);
            due.is("all() stays", x.all(6), by[law]);
            due.is("LAW stays", x.count(1), law);
        }
        GallRegister x = Due.told("book years 3 law 3 odds 5;ink rise 20 top 20 fade 0;page;page;"
                + "entry on 0 in 0 wrote 0 says 0;entry on 1 in 0 wrote 3 says 0;");
        due.is("law(), the least of several", x.law(), 0);
        x.bleaches(0, 1);
        due.is("by(0), acts as now", x.by(0), 30);
        GallRegister facing = Due.told("book years 3 law 0 odds 5;ink rise 20 top 20 fade 0;ink rise 1 top 1 fade 0;page;page;"
                + "entry on 0 in 0 wrote 0 says 0;entry on 1 in 1 wrote 0 says 0;");
        due.is("by(2)", facing.by(2), 24);
        due.is("law() is 2", facing.law(), 2);
        GallRegister bare = Due.told("book years 3 law 3 odds 5;");
        due.is("bare by(1)", bare.by(1), 0);
        due.is("bare law()", bare.law(), 0);
    }

    private static void later() {
        GallRegister x = register(0);
        int[] first = {17, 18, 19, 20, 15, 10, 5, 0};
        int[] second = {5, 7, 9, 6, 3, 0};
        for (int n = 0; n < first.length; n++) {
            due.is("later(0, " + n + ")", x.later(0, n), first[n]);
        }
        for (int n = 0; n < second.length; n++) {
            due.is("later(1, " + n + ")", x.later(1, n), second[n]);
        }
        due.is("later(0, 20)", x.later(0, 20), 0);
        due.is("later(0, 21)", x.later(0, 21), -2);
        due.is("later(0, -1)", x.later(0, -1), -2);
        due.is("later(4, 0)", x.later(4, 0), -2);
        due.is("later(-1, 0)", x.later(-1, 0), -2);
        due.is("the BOOK stays", x.entry(0, 2), 0);
        x.bleaches(0, 3);
        due.is("acts as now", x.later(0, 0), 7);
        due.is("acts ahead of it", x.later(0, 4), 15);
        GallRegister far = Due.told("book years 3 law 0 odds 5;ink rise 20 top 20 fade 0;page;entry on 0 in 0 wrote 20 says 0;");
        due.is("beyond all", far.later(0, 20), 0);
    }

    private static void other() {
        GallRegister x = register(0);
        int[][] want = {{17, 1}, {19, 5}, {18, 3}, {18, 3}};
        for (int e = 0; e < 4; e++) {
            due.is("other(" + e + ", 0)", x.other(e, 0), want[e][0]);
            due.is("other(" + e + ", 1)", x.other(e, 1), want[e][1]);
        }
        int[][] none = {{4, 0}, {-1, 0}, {0, 2}, {0, -1}};
        for (int[] n : none) {
            due.is("other(" + n[0] + ", " + n[1] + ")", x.other(n[0], n[1]), -2);
        }
        due.is("the BOOK stays", x.entry(0, 1), 0);
        x.retraces(0, 0, 6);
        due.is("acts as now", x.other(0, 1), 5);
    }

    private static void hide() {
        GallRegister x = register(0);
        int[][] want = {{0, 6, 2}, {0, 5, 2}, {0, 4, 2}, {0, 3, 2}, {0, 2, 1}, {0, 1, 1}, {0, 0, 1},
            {1, 0, -1}, {1, 1, -1}, {1, 2, 1}, {1, 6, 1}, {1, 5, 1},
            {4, 0, -2}, {-1, 0, -2}, {0, 7, -2}, {0, -1, -2}};
        for (int[] w : want) {
            due.is("hide(" + w[0] + ", " + w[1] + ")", x.hide(w[0], w[1]), w[2]);
        }
        due.is("no act comes", x.count(6), 0);
        due.is("SHADES stay", x.shade(0, 6), 17);
        x.retraces(0, 0, 6);
        due.is("behind all acts", x.hide(0, 6), 1);
        due.is("ahead of an act", x.hide(0, 5), -1);
        x.bleaches(0, 6);
        due.is("hidden already", x.hide(0, 0), 0);
        GallRegister dark = Due.told("book years 3 law 0 odds 5;ink rise 20 top 60 fade 0;ink rise 20 top 55 fade 0;page;"
                + "entry on 0 in 0 wrote 0 says 0;entry on 0 in 1 wrote 0 says 0;entry on 0 in 1 wrote 9 says 0;");
        due.is("hide 60", dark.hide(0, 2), 6);
        due.is("hide 55", dark.hide(1, 2), 6);
        due.is("hide 20", dark.hide(1, 0), 2);
        due.is("hide what is never there", dark.hide(2, 0), 0);
        for (int i = 0; i < 30; i++) {
            dark.retraces(0, 0, 2);
        }
        due.is("behind 30 acts", dark.hide(0, 3), 4);
        due.is("of another one", dark.hide(1, 3), 6);
    }

    private static void save() {
        GallRegister x = register(0);
        due.is("save(0)", x.save(0), 0);
        due.is("save(1)", x.save(1), 2);
        due.is("save(4)", x.save(4), -2);
        due.is("save(-1)", x.save(-1), -2);
        x.bleaches(0, 1);
        due.is("behind the act", x.save(0), 1);
        due.is("no act comes", x.count(6), 1);
        due.is("SHADES stay", x.shade(0, 6), 0);
        GallRegister y = Due.told("book years 6 law 0 odds 5;ink rise 5 top 20 fade 0;ink rise 1 top 1 fade 0;ink rise 4 top 4 fade 0;page;"
                + "entry on 0 in 0 wrote 0 says 0;entry on 0 in 2 wrote 0 says 0;entry on 0 in 0 wrote 9 says 0;"
                + "entry on 0 in 0 wrote 6 says 0;");
        y.retraces(0, 1, 2);
        due.is("with its INK as told", y.save(0), 2);
        due.is("too pale an INK", y.save(1), -1);
        due.is("never there", y.save(2), -1);
        due.is("there at last", y.save(3), 6);
        GallRegister pale = Due.told("book years 20 law 0 odds 5;ink rise 9 top 9 fade 1;page;entry on 0 in 0 wrote 1 says 0;");
        // Within 4 YEARS of the last one it has 5 or more.
        due.is("late enough", pale.save(0), 16);
        for (int i = 0; i < 30; i++) {
            pale.bleaches(0, 17);
        }
        due.is("behind 30 acts", pale.save(0), 17);
    }

    private static void heavy() {
        GallRegister x = register(0);
        due.is("heavy()", x.heavy(), 2);
        due.is("the BOOK stays", x.entry(2, 2), 1);
        due.is("SHADES stay", x.all(6), 58);
        for (int e = 0; e < 4; e++) {
            x.bleaches(e, 6);
            x.bleaches(e, 6);
        }
        due.is("all are 0", x.all(6), 0);
        due.is("none is heavy", x.heavy(), -1);
        GallRegister bare = Due.told("book years 3 law 3 odds 5;");
        due.is("bare heavy()", bare.heavy(), -1);
        // By LAW 2 without 0, of 15, its facing one has 4 less; PLACES stay.
        GallRegister facing = Due.told("book years 5 law 2 odds 5;ink rise 15 top 15 fade 0;ink rise 1 top 1 fade 0;ink rise 17 top 17 fade 0;"
                + "page;page;page;entry on 0 in 0 wrote 0 says 0;entry on 2 in 2 wrote 0 says 0;entry on 1 in 1 wrote 0 says 0;"
                + "entry on 0 in 1 wrote 0 says 0;");
        due.is("by what faces it", facing.shade(2, 5), 6);
        due.is("heavy by what faces it", facing.heavy(), 0);
    }

    /** What would be is told without WET YEARS, whatever the odds. */
    private static void notWet() {
        GallRegister x = Due.told("book years 3 law 1 odds 10;ink rise 5 top 5 fade 0;page;page damp;entry on 0 in 0 wrote 0 says 0;");
        due.is("by", x.by(0), 5);
        due.is("later", x.later(0, 0), 5);
        due.is("other", x.other(0, 0), 5);
        due.is("hide", x.hide(0, 3), 1);
        due.is("save", x.save(0), 0);
        due.is("gets", x.gets(0, 1, 0, 0), 3);
        due.is("gets, turned", x.gets(0, 1, 1, 1), 2);
        due.is("passes", x.passes(0, 3), 1);
        due.is("ages", x.ages(0, 0, 5, 3), 15);
        Due.seen(x, 0, 0, 3, 5);
        due.is("dates", x.dates(0, 0), 4);
        due.is("kinds", x.kinds(0, 0), 1);
        due.is("laws", x.laws(0), 15);
    }

    private static void noneSuch() {
        GallRegister x = register(0);
        due.is("by(4)", x.by(4), -2);
        due.is("by(-1)", x.by(-1), -2);
        GallRegister none = new GallRegister();
        due.is("new by(0)", none.by(0), -2);
        due.is("new law()", none.law(), -2);
        due.is("new later", none.later(0, 0), -2);
        due.is("new other", none.other(0, 0), -2);
        due.is("new hide", none.hide(0, 0), -2);
        due.is("new save", none.save(0), -2);
        due.is("new heavy", none.heavy(), -2);
    }
}
