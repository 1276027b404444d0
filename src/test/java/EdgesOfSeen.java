import java.util.List;

/** The bounds that promises 28 to 38 and 50 name. */
final class EdgesOfSeen {
    /** The calls that read a row of what was SEEN, with one ENTRY and without. */
    private static final List<Edges.Call> READERS = List.of((r, a) -> r.dates(a[0], a[1]), (r, a) -> r.first(a[0], a[1]), (r, a) -> r.last(a[0], a[1]),
            (r, a) -> r.ask(a[0], a[1]), (r, a) -> r.leaves(a[0], a[1]), (r, a) -> r.kinds(a[0], a[1]), (r, a) -> r.laws(a[0]));
    private static final String[] NAMES = {"dates", "first", "last", "ask", "leaves", "kinds", "laws"};

    private final Edges e;

    EdgesOfSeen(Edges e) {
        this.e = e;
    }

    void run() {
        passes();
        suspects();
        betrayed();
        honest();
        ages();
        agesRefused();
        dates();
        refusedRows();
        nothingInIt();
        first();
        last();
        ask();
        leaves();
        kinds();
        laws();
        likewise();
    }

    private static String ink(int rise, int top, int fade) {
        return "ink rise " + rise + " top " + top + " fade " + fade + ";";
    }

    private static String entry(int page, int ink, int wrote, int says) {
        return "entry on " + page + " in " + ink + " wrote " + wrote + " says " + says + ";";
    }

    private static GallRegister register(int years, int law, String lines) {
        return Due.told("book years " + years + " law " + law + " odds 5;" + lines);
    }

    /** 9 from the YEAR on in which it was written. */
    private static GallRegister nine(int years, int wrote, int says) {
        return register(years, 0, ink(9, 9, 0) + ink(4, 4, 4) + "page;" + entry(0, 0, wrote, says));
    }

    private void passes() {
        e.promise(28, "INKS by which an ENTRY PASSES (IV) in a YEAR, as bits.");
        GallRegister x = nine(4, 1, 1);
        e.row("as told", (r, a) -> r.passes(0, a[0]), x, 3, 1, 1, 1, 1, -2);
        e.row("says 1 YEAR more", (r, a) -> r.passes(0, a[0]), nine(4, 1, 2), 3, 0, 1, 1, 1, -2);
        e.row("says 1 YEAR less", (r, a) -> r.passes(0, a[0]), nine(4, 1, 0), 0, 1, 1, 1, 1, -2);
        e.row("says one beyond all", (r, a) -> r.passes(0, a[0]), nine(4, 1, 20), 3, 0, 0, 0, 0, -2);
        e.row("written beyond all", (r, a) -> r.passes(0, a[0]), nine(4, 20, 20), 3, 3, 3, 3, 3, -2);
        e.row("written beyond all, and says 0: 4 0 0", (r, a) -> r.passes(0, a[0]), nine(2, 20, 0), 0, 2, 2, -2);
        String four = ink(9, 9, 0) + ink(9, 9, 9) + ink(9, 10, 0) + ink(10, 9, 0);
        GallRegister y = register(2, 0, four + "page;" + entry(0, 0, 0, 0));
        e.row("by all four", (r, a) -> r.passes(0, a[0]), y, 15, 9, 9);
        e.is("without an INK", register(1, 0, "page;").passes(0, 0), -2);
        e.promise(28, "-2: there are none such.");
        e.bounds("passes", -2, (r, a) -> r.passes(a[0], a[1]), Edges.ENTRY, Edges.YEAR);
    }

    private void suspects() {
        e.promise(29, "ENTRIES, there, that PASS by no INK in a YEAR, as bits.");
        GallRegister x = register(3, 0, ink(9, 9, 0) + ink(1, 2, 0) + "page;" + entry(0, 1, 1, 0) + entry(0, 0, 1, 0) + entry(0, 1, 2, 0)
                + entry(0, 1, 4, 0));
        // Says 0: 9 9 9 9 or 1 2 2 2.
        e.row("suspects", (r, a) -> r.suspects(a[0]), x, 0, 1, 4, 0, -2);
        e.is("of no ENTRY", Edges.register(Edges.BARE).suspects(1), 0);
        GallRegister all = register(1, 0, ink(1, 2, 0) + "page;" + entry(0, 0, 1, 0).repeat(7));
        e.row("all, as soon as they are there", (r, a) -> r.suspects(a[0]), all, 0, 127, -2);
        e.promise(29, "-2: there is none such, no BOOK.");
        e.bounds("suspects", -2, (r, a) -> r.suspects(a[0]), Edges.YEAR);
    }

    private void betrayed() {
        e.promise(30, "The first YEAR in which an ENTRY, there, PASSES by no INK.");
        GallRegister x = register(4, 0, ink(5, 5, 1) + "page;" + entry(0, 0, 1, 0) + entry(0, 0, 0, 1) + entry(0, 0, 0, 0) + entry(0, 0, 4, 3));
        e.is("in the YEAR in which it is written", x.betrayed(0), 1);
        e.is("in YEAR 0", x.betrayed(1), 0);
        e.is("in the last YEAR", x.betrayed(3), 4);
        x.bleaches(2, 4);
        e.is("by an act in the last YEAR", x.betrayed(2), 4);
        e.promise(30, "NONE: in none;");
        x.anew();
        e.is("as told", x.betrayed(2), -1);
        GallRegister never = register(4, 0, ink(5, 5, 1) + "page;" + entry(0, 0, 5, 0) + entry(0, 0, 20, 20));
        e.is("never there", never.betrayed(0), -1);
        e.is("never there", never.betrayed(1), -1);
        e.promise(30, "-2: there is none such.");
        e.bounds("betrayed", -2, (r, a) -> r.betrayed(a[0]), Edges.ENTRY);
    }

    private void honest() {
        e.promise(50, "ENTRIES, there, that PASS (IV) by the INK told of them in a YEAR, as bits.");
        GallRegister x = register(2, 0, ink(9, 9, 0) + ink(9, 9, 1) + "page;" + entry(0, 0, 0, 0) + entry(0, 1, 0, 0) + entry(0, 0, 1, 0)
                + entry(0, 0, 3, 3) + entry(0, 1, 1, 0));
        e.row("honest", (r, a) -> r.honest(a[0]), x, 3, 7, 7, -2);
        x.retraces(0, 1, 0);
        e.row("by the INK told, not by that of an act", (r, a) -> r.honest(a[0]), x, 3, 6, 6, -2);
        e.is("not there, PASSES", x.passes(3, 0), 3);
        e.is("of no ENTRY", Edges.register(Edges.BARE).honest(1), 0);
        e.promise(50, "-2: there is no such YEAR, no BOOK.");
        e.bounds("honest", -2, (r, a) -> r.honest(a[0]), Edges.YEAR);
    }

    private void ages() {
        e.promise(31, "YEARS (0 .. years) in which an ENTRY on a PAGE with an INK may have been written that has SHADE n (1 .. 60) in a YEAR (as IV), "
                + "as bits.");
        GallRegister x = register(20, 1, ink(20, 60, 9) + ink(1, 1, 0) + "page;page damp;" + entry(0, 0, 0, 0));
        e.is("60, in YEARS that leave two to rise", x.ages(0, 0, 60, 2), 1);
        e.is("60 in YEAR 1", x.ages(0, 0, 60, 1), 0);
        e.is("60 in the last", x.ages(0, 0, 60, 20), 1 << 18);
        e.is("20 in the last", x.ages(0, 0, 20, 20), 1 << 20);
        e.is("20 in YEAR 0", x.ages(0, 0, 20, 0), 1);
        e.is("on the damp PAGE", x.ages(0, 1, 42, 20), 1 << 17);
        e.is("on the dry PAGE", x.ages(0, 0, 42, 20), 1 << 16);
        e.is("1, of any YEAR", x.ages(1, 0, 1, 20), (1 << 21) - 1);
        e.is("1, of YEARS up to it", x.ages(1, 0, 1, 19), (1 << 20) - 1);
        e.is("1, in YEAR 0", x.ages(1, 0, 1, 0), 1);
        e.is("2, of none", x.ages(1, 0, 2, 20), 0);
        x.bleaches(0, 0);
        e.is("without acts", x.ages(0, 0, 20, 0), 1);
        String lines = ink(20, 20, 0) + ink(1, 1, 0) + "page;page;" + entry(0, 0, 0, 0) + entry(1, 1, 0, 0);
        e.is("LAW 2 as 0", register(3, 2, lines).ages(1, 1, 1, 3), 15);
        e.is("LAW 2 as 0", register(3, 2, lines).ages(1, 1, 2, 3), 0);
        GallRegister wet = Due.told("book years 2 law 0 odds 10;" + ink(9, 9, 0) + "page;");
        e.is("not WET", wet.ages(0, 0, 9, 2), 7);
        e.is("without an ENTRY", wet.ages(0, 0, 7, 2), 0);
    }

    private void agesRefused() {
        e.promise(31, "-2: there are none such.");
        e.bounds("ages", -2, (r, a) -> r.ages(a[0], a[1], a[2], a[3]), Edges.INK, Edges.PAGE, Edges.from(1, 60), Edges.YEAR);
    }

    private void all(String name, GallRegister x, int slot, int entry, int dates, int first, int last, int ask, int leaves) {
        String of = name + " (" + slot + ", " + entry + ")";
        e.is("dates " + of, x.dates(slot, entry), dates);
        e.is("first " + of, x.first(slot, entry), first);
        e.is("last " + of, x.last(slot, entry), last);
        e.is("ask " + of, x.ask(slot, entry), ask);
        e.is("leaves " + of, x.leaves(slot, entry), leaves);
    }

    private void dates() {
        e.promise(32, "SEEN (V): in how many YEARS (0 .. years) an ENTRY can have been written by a SLOT's row.");
        for (int years = 1; years <= 20; years++) {
            GallRegister x = nine(years, 20, 0);
            x.row(3, 3, 0);
            e.is("nothing seen, of " + years, x.dates(3, 0), years + 1);
            Due.seen(x, 3, 0, years, 9);
            e.is("9 in the last YEAR", x.dates(3, 0), years + 1);
            Due.seen(x, 3, 0, years - 1, 0, 0, years, 9);
            e.is("of the last YEAR alone", x.dates(3, 0), 1);
            Due.seen(x, 3, 0, 0, 9);
            e.is("of YEAR 0 alone", x.dates(3, 0), 1);
            Due.seen(x, 3, 0, years, 0);
            e.is("of none", x.dates(3, 0), 0);
        }
        // Twenty triples, the last of which rules out all but YEAR 2.
        GallRegister x = nine(3, 0, 0);
        x.row(0, 0, 60);
        for (int i = 0; i < 20; i++) {
            x.write(0, 3 * i, 0);
            x.write(0, 3 * i + 1, 3);
            x.write(0, 3 * i + 2, 9);
        }
        e.is("of all", x.dates(0, 0), 4);
        x.write(0, 58, 1);
        x.write(0, 59, 0);
        x.write(0, 55, 2);
        e.is("by the last two", x.dates(0, 0), 1);
        e.is("which", x.first(0, 0), 2);
    }

    private void refusedRows() {
        e.promise(32, "-2: there is no such SLOT, ENTRY, a number is none such (asked last), not three each;");
        e.bounds("dates", -2, EdgesOfSeen::emptyRows, READERS.get(0), Edges.SLOT, Edges.ENTRY);
        threeEach(0);
        numbers(0);
    }

    private static void emptyRows(GallRegister x) {
        for (int slot = 0; slot < 4; slot++) {
            x.row(slot, slot, 0);
        }
    }

    private void threeEach(int reader) {
        for (int n = 0; n <= 60; n++) {
            GallRegister x = Edges.register(Edges.SAMPLE);
            x.row(1, 2, n);
            boolean refused = READERS.get(reader).of(x, new int[] {1, 3}) == -2;
            e.is(NAMES[reader] + " of a row of " + n + " is refused", refused ? 1 : 0, n % 3 == 0 ? 0 : 1);
        }
    }

    /** In the first and the last of twenty triples, of each WIDTH: ENTRY 3, YEAR 6, SHADE 60 are such, those beyond not. */
    private void numbers(int reader) {
        int[][] bounds = {{0, 3}, {0, 6}, {0, 60}};
        for (int width = 0; width < 4; width++) {
            for (int at : new int[] {0, 1, 2, 57, 58, 59}) {
                int[] b = bounds[at % 3];
                long[] values = {b[0], b[1], b[0] - 1, b[1] + 1, 127, -128, Integer.MAX_VALUE, Long.MIN_VALUE, Long.MAX_VALUE};
                for (int i = 0; i < values.length; i++) {
                    GallRegister x = Edges.register(Edges.SAMPLE);
                    x.row(2, width, 60);
                    x.write(2, at, values[i]);
                    boolean cutTo0 = values[i] == Long.MIN_VALUE && width < 3;
                    boolean refused = READERS.get(reader).of(x, new int[] {2, 0}) == -2;
                    String call = NAMES[reader] + " of width " + width + " with " + values[i] + " at " + at + " is refused";
                    e.is(call, refused ? 1 : 0, i < 2 || cutTo0 ? 0 : 1);
                }
            }
        }
    }

    private void nothingInIt() {
        e.promise(32, "-6: it has nothing.");
        GallRegister x = Edges.register(Edges.SAMPLE);
        for (int slot = 0; slot < 4; slot++) {
            e.is("nothing in " + slot, x.dates(slot, 3), -6);
            e.is("no ENTRY is asked ahead", x.dates(slot, 4), -2);
            e.is("no ENTRY is asked ahead", x.dates(slot, -1), -2);
        }
        e.is("no SLOT is asked ahead", x.dates(4, 3), -2);
        e.is("no SLOT is asked ahead", x.dates(-1, 3), -2);
        x.row(0, 0, 0);
        e.is("a row of 0 numbers is not nothing", x.dates(0, 3), 7);
        e.is("another SLOT's", x.dates(1, 3), -6);
        e.is("without a BOOK", new GallRegister().dates(0, 0), -2);
        e.is("without an ENTRY", Edges.register(Edges.BARE).dates(0, 0), -2);
    }

    private void first() {
        e.promise(33, "The first of these.");
        GallRegister x = nine(4, 0, 0);
        x.row(0, 0, 0);
        e.is("of all", x.first(0, 0), 0);
        Due.seen(x, 0, 0, 3, 0);
        e.is("the last YEAR", x.first(0, 0), 4);
        Due.seen(x, 0, 0, 2, 0);
        e.is("of two", x.first(0, 0), 3);
        e.promise(33, "NONE: there is none;");
        Due.seen(x, 0, 0, 4, 0);
        e.is("of none", x.first(0, 0), -1);
    }

    private void last() {
        e.promise(34, "The last. NONE,");
        GallRegister x = nine(4, 0, 0);
        x.row(0, 0, 0);
        e.is("of all", x.last(0, 0), 4);
        Due.seen(x, 0, 0, 0, 9);
        e.is("YEAR 0", x.last(0, 0), 0);
        Due.seen(x, 0, 0, 1, 9);
        e.is("of two", x.last(0, 0), 1);
        Due.seen(x, 0, 0, 4, 0);
        e.is("of none", x.last(0, 0), -1);
    }

    private void ask() {
        e.promise(35, "The YEAR of which to know its SHADE leaves fewest of these at worst, if fewer than now, the first of several.");
        // 9 from then on: YEAR y parts those up to y from those behind it.
        int[][] want = {{0, 1}, {0, 2}, {1, 2}, {1, 3}, {2, 3}};
        for (int years = 1; years <= 5; years++) {
            GallRegister x = nine(years, 0, 0);
            x.row(0, 0, 0);
            e.is("ask of years " + years, x.ask(0, 0), want[years - 1][0]);
            e.is("leaves of years " + years, x.leaves(0, 0), want[years - 1][1]);
        }
        GallRegister two = nine(5, 0, 0);
        Due.seen(two, 0, 0, 3, 0);
        all("4 or 5", two, 0, 0, 2, 4, 5, 4, 1);
        // 4 0 0 ..: each YEAR parts one from all others; the first does.
        GallRegister short4 = register(5, 0, ink(4, 4, 4) + "page;" + entry(0, 0, 0, 0));
        short4.row(0, 0, 0);
        all("one YEAR alone", short4, 0, 0, 6, 0, 5, 0, 5);
        // 1 2 3 ..: the last YEAR but one tells all, as the last does.
        GallRegister rising = register(20, 0, ink(1, 60, 0) + "page;" + entry(0, 0, 0, 0));
        rising.row(0, 0, 0);
        all("the last but one", rising, 0, 0, 21, 0, 20, 19, 1);
        // Nothing but the last YEAR parts 2 from 0 and 1.
        GallRegister late = nine(2, 0, 0);
        late.bleaches(0, 0);
        late.bleaches(0, 1);
        late.row(0, 0, 0);
        all("the last YEAR", late, 0, 0, 3, 0, 2, 2, 2);
        // 20 40 60 60: in YEAR 3 two have 60, two are not there.
        GallRegister sixty = register(5, 0, ink(20, 60, 0) + "page;" + entry(0, 0, 0, 0));
        sixty.row(0, 0, 0);
        all("SHADE 60", sixty, 0, 0, 6, 0, 5, 3, 2);
        GallRegister year0 = nine(1, 0, 0);
        year0.row(0, 0, 0);
        all("YEAR 0", year0, 0, 0, 2, 0, 1, 0, 1);
        e.promise(35, "NONE: none;");
        GallRegister x = nine(5, 0, 0);
        Due.seen(x, 0, 0, 0, 9);
        all("one is left", x, 0, 0, 1, 0, 0, -1, 1);
        Due.seen(x, 0, 0, 5, 0);
        all("none is left", x, 0, 0, 0, -1, -1, -1, 0);
        GallRegister flat = nine(2, 0, 0);
        for (int year = 0; year <= 2; year++) {
            flat.bleaches(0, year);
        }
        flat.row(0, 0, 0);
        all("0 in all", flat, 0, 0, 3, 0, 2, -1, 3);
    }

    private void leaves() {
        e.promise(36, "How many it leaves at worst (as now without).");
        GallRegister x = nine(3, 0, 0);
        x.row(0, 0, 0);
        e.is("of four", x.leaves(0, 0), 2);
        Due.seen(x, 0, 0, 1, 0);
        e.is("of two", x.leaves(0, 0), 1);
        Due.seen(x, 0, 0, 2, 0);
        e.is("of one, as now", x.leaves(0, 0), 1);
        Due.seen(x, 0, 0, 3, 0);
        e.is("of none, as now", x.leaves(0, 0), 0);
        for (int year = 0; year <= 3; year++) {
            x.bleaches(0, year);
        }
        e.is("of four that nothing parts, as now", x.leaves(0, 0), 4);
    }

    private void kinds() {
        e.promise(37, "INKS in which it can have been written (in its YEAR) by such a row, as bits.");
        GallRegister x = register(2, 0, ink(9, 9, 0) + ink(9, 9, 1) + ink(8, 9, 0) + ink(20, 9, 9) + "page;" + entry(0, 0, 1, 0) + entry(0, 0, 3, 0));
        x.row(0, 0, 0);
        e.is("all four", x.kinds(0, 0), 15);
        Due.seen(x, 0, 0, 1, 9);
        e.is("three", x.kinds(0, 0), 11);
        Due.seen(x, 0, 0, 1, 9, 0, 2, 0);
        e.is("the last", x.kinds(0, 0), 8);
        Due.seen(x, 0, 0, 0, 9);
        e.is("in its YEAR, in no other", x.kinds(0, 0), 0);
        Due.seen(x, 0, 1, 2, 0);
        e.is("never there", x.kinds(0, 1), 15);
        e.is("another one, as now", x.kinds(0, 0), 15);
        Due.seen(x, 0, 1, 2, 9);
        e.is("another one, not as now", x.kinds(0, 0), 0);
        x.retraces(0, 2, 2);
        Due.seen(x, 0, 0, 2, 8);
        e.is("acts as now", x.kinds(0, 0), 15);
        notWet();
    }

    /** What can be by what was SEEN is not WET, and has the acts of all ENTRIES. */
    private void notWet() {
        GallRegister x = Due.told("book years 2 law 0 odds 10;" + ink(9, 9, 0) + "page;" + entry(0, 0, 0, 0) + entry(0, 0, 0, 0));
        x.bleaches(1, 2);
        Due.seen(x, 0, 0, 2, 9, 1, 1, 9, 1, 2, 0);
        e.is("dates, not WET", x.dates(0, 0), 3);
        e.is("kinds, not WET", x.kinds(0, 0), 1);
        e.is("laws, not WET", x.laws(0), 15);
        e.is("kinds of the last ENTRY", x.kinds(0, 1), 1);
    }

    private void laws() {
        e.promise(38, "LAWS (0 .. 3) by which it is as such a row tells, as bits.");
        String lines = ink(18, 18, 4) + ink(1, 1, 1) + "page damp;page;" + entry(0, 0, 0, 0) + entry(1, 1, 0, 0);
        for (int law = 0; law < 4; law++) {
            GallRegister x = register(2, law, lines);
            x.row(0, 0, 0);
            e.is("all", x.laws(0), 15);
            // In YEAR 1: 14 10 14 18, and 0 0 1 1.
            int[][] want = {{0, 1, 14, 5}, {0, 1, 10, 2}, {0, 1, 18, 8}, {1, 1, 0, 3}, {1, 1, 1, 12}, {0, 0, 18, 15}, {0, 0, 17, 0}};
            for (int[] w : want) {
                Due.seen(x, 0, w[0], w[1], w[2]);
                e.is("laws of " + w[0] + " " + w[1] + " " + w[2], x.laws(0), w[3]);
            }
            e.is("the LAW stays", x.count(1), law);
        }
        GallRegister none = Edges.register(Edges.BARE);
        none.row(3, 0, 0);
        e.is("without an ENTRY", none.laws(3), 15);
    }

    /** -2, -6 of all calls that read a row. */
    private void likewise() {
        int[] numbers = {32, 33, 34, 35, 36, 37, 38};
        for (int i = 1; i < 7; i++) {
            if (i == 6) {
                e.promise(38, "-2 (ENTRY aside; no BOOK), -6 likewise.");
                e.bounds("laws", -2, EdgesOfSeen::emptyRows, READERS.get(6), Edges.SLOT);
            } else {
                e.promise(numbers[i], "-2, -6 likewise.");
                e.bounds(NAMES[i], -2, EdgesOfSeen::emptyRows, READERS.get(i), Edges.SLOT, Edges.ENTRY);
            }
            threeEach(i);
            numbers(i);
            GallRegister x = Edges.register(Edges.SAMPLE);
            for (int slot = 0; slot < 4; slot++) {
                e.is(NAMES[i] + ", nothing in " + slot, READERS.get(i).of(x, new int[] {slot, 3}), -6);
                e.is(NAMES[i] + ", no ENTRY and nothing", READERS.get(i).of(x, new int[] {slot, 4}), i == 6 ? -6 : -2);
            }
            e.is(NAMES[i] + ", no SLOT", READERS.get(i).of(x, new int[] {4, 3}), -2);
            for (String book : new String[] {null, "", Edges.BARE}) {
                GallRegister none = Edges.register(book);
                boolean bare = Edges.BARE.equals(book);
                e.is(NAMES[i] + ", nothing, of " + book, READERS.get(i).of(none, new int[] {0, 0}), i == 6 && bare ? -6 : -2);
            }
        }
    }
}
