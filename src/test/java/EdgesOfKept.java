import java.util.List;

/** The bounds that promises 66 to 69, 72 and 74 to 78 name. */
final class EdgesOfKept {
    private static final String[] TOLD = {Edges.BARE, Edges.ONE, Edges.SAMPLE, Edges.FULL};

    private final Edges e;

    EdgesOfKept(Edges e) {
        this.e = e;
    }

    void run() {
        retraces();
        retracesRefused();
        bleaches();
        undo();
        undoRefused();
        anew();
        rate();
        rateRefused();
        image();
        back();
        backRefused();
        row();
        rowRefused();
        rowBelow0();
        write();
        writeRefused();
        paste();
        pasteRefused();
        pasteBeyond();
        pasteOrder();
    }

    private static void thirtyActs(GallRegister x) {
        for (int i = 0; i < 30 && x.count(5) > 0; i++) {
            x.bleaches(x.count(5) - 1, 0);
        }
    }

    // ---- acts ----

    private void retraces() {
        e.promise(66, "An ENTRY is RETRACED with an INK in a YEAR (III; there or not): its SHADE in the last one then.");
        GallRegister x = Edges.register(Edges.SAMPLE);
        e.is("in YEAR 0", x.retraces(0, 1, 0), 1);
        e.is("in the last YEAR", x.retraces(0, 0, 6), 5);
        e.is("not there", x.retraces(1, 0, 1), 5);
        e.is("in the YEAR in which it is written", x.retraces(1, 0, 2), 19);
        e.is("acts", x.count(6), 4);
        GallRegister full = Edges.register(Edges.FULL);
        e.is("there in the last YEAR alone", full.retraces(2, 3, 20), 1);
        e.is("ahead of it", full.retraces(2, 1, 19), 1);
        e.is("the last ENTRY with the last INK", full.retraces(6, 3, 19), 2);
        GallRegister never = Edges.register("book years 2 law 0 odds 0;ink rise 9 top 9 fade 0;page;entry on 0 in 0 wrote 3 says 0;");
        e.is("never there", never.retraces(0, 0, 2), 0);
        e.is("it is an act", never.count(6), 1);
    }

    private void retracesRefused() {
        e.promise(66, "-2: there are none such;");
        e.bounds("retraces", -2, (r, a) -> r.retraces(a[0], a[1], a[2]), Edges.ENTRY, Edges.INK, Edges.YEAR);
        e.promise(66, "-5: there were 30 acts.");
        thirty("retraces", (r, a) -> r.retraces(a[0], 0, 0));
        GallRegister x = Edges.register(Edges.SAMPLE);
        thirtyActs(x);
        e.is("no INK is asked ahead", x.retraces(0, 2, 6), -2);
        e.is("no YEAR is asked ahead", x.retraces(0, 1, 7), -2);
    }

    /** The 30th act is one, the 31st is none; what is none such is asked ahead. */
    private void thirty(String name, Edges.Call act) {
        for (String book : new String[] {Edges.ONE, Edges.SAMPLE, Edges.FULL}) {
            GallRegister x = Edges.register(book);
            for (int i = 0; i < 30; i++) {
                e.holds(name + " " + i, act.of(x, new int[] {0}) >= 0);
                e.is("acts", x.count(6), i + 1);
            }
            List<Long> before = Edges.state(x);
            e.is(name + ", 31st", act.of(x, new int[] {0}), -5);
            e.is(name + ", 32nd", act.of(x, new int[] {x.count(5) - 1}), -5);
            e.is(name + ", no ENTRY", act.of(x, new int[] {x.count(5)}), -2);
            e.is(name + ", no ENTRY", act.of(x, new int[] {-1}), -2);
            e.holds("refused, all stays", Edges.state(x).equals(before));
            x.undo();
            e.holds(name + ", 30th again", act.of(x, new int[] {0}) >= 0);
            e.is(name + ", 31st again", act.of(x, new int[] {0}), -5);
            x.anew();
            e.holds(name + ", first again", act.of(x, new int[] {0}) >= 0);
        }
    }

    private void bleaches() {
        e.promise(67, "An ENTRY is BLEACHED in a YEAR (III): its SHADE in the last one then.");
        GallRegister x = Edges.register(Edges.SAMPLE);
        e.is("in the last YEAR", x.bleaches(0, 6), 7);
        e.is("again, 0 at least", x.bleaches(0, 6), 0);
        e.is("not there", x.bleaches(1, 1), 5);
        e.is("in YEAR 0, not there", x.bleaches(2, 0), 18);
        e.is("in the YEAR in which it is written", x.bleaches(2, 1), 0);
        e.is("in YEAR 0", x.bleaches(0, 0), 0);
        e.is("acts", x.count(6), 6);
        e.is("never there", Edges.register("book years 2 law 0 odds 0;ink rise 9 top 9 fade 0;page;entry on 0 in 0 wrote 3 says 0;").bleaches(0, 2), 0);
        e.promise(67, "-2, -5 likewise.");
        e.bounds("bleaches", -2, (r, a) -> r.bleaches(a[0], a[1]), Edges.ENTRY, Edges.YEAR);
        thirty("bleaches", (r, a) -> r.bleaches(a[0], 0));
        GallRegister thirty = Edges.register(Edges.SAMPLE);
        thirtyActs(thirty);
        e.is("no YEAR is asked ahead", thirty.bleaches(0, 7), -2);
    }

    private void undo() {
        e.promise(68, "The latest act is taken back: how many there are.");
        GallRegister x = Edges.register(Edges.SAMPLE);
        thirtyActs(x);
        for (int i = 29; i >= 0; i--) {
            e.is("undo", x.undo(), i);
            e.is("acts", x.count(6), i);
        }
        e.is("SHADE", x.shade(0, 6), 17);
        x.bleaches(0, 6);
        x.retraces(0, 1, 1);
        x.bleaches(0, 3);
        e.is("the latest told, not that of the last YEAR", x.undo(), 2);
        // 5, then 3 6 9 7 5 3, less 10 in the last YEAR.
        e.is("SHADE", x.shade(0, 3), 9);
        e.is("undo", x.undo(), 1);
        e.is("SHADE", x.shade(0, 6), 7);
    }

    private void undoRefused() {
        e.promise(68, "-5: there is none;");
        for (String book : TOLD) {
            GallRegister x = Edges.register(book);
            List<Long> before = Edges.state(x);
            e.is("none yet", x.undo(), -5);
            thirtyActs(x);
            x.anew();
            e.is("none any more", x.undo(), -5);
            e.holds("all stays", Edges.state(x).equals(before));
        }
        GallRegister one = Edges.register(Edges.ONE);
        one.bleaches(0, 0);
        e.is("of one", one.undo(), 0);
        e.is("of none", one.undo(), -5);
        one.bleaches(0, 0);
        Due.book(one, Edges.ONE);
        e.is("of another BOOK", one.undo(), -5);
        e.promise(68, "-2: there is no BOOK.");
        // There is no act either: -2 is asked ahead.
        e.is("new", new GallRegister().undo(), -2);
        e.is("gone", Edges.register("").undo(), -2);
    }

    private void anew() {
        e.promise(69, "All are: how many there were.");
        for (String book : TOLD) {
            GallRegister x = Edges.register(book);
            List<Long> before = Edges.state(x);
            e.is("of none", x.anew(), 0);
            thirtyActs(x);
            e.is("of all", x.anew(), x.count(5) == 0 ? 0 : 30);
            e.is("of none", x.anew(), 0);
            e.holds("as it was", Edges.state(x).equals(before));
        }
        e.promise(69, "-2 likewise.");
        e.is("new", new GallRegister().anew(), -2);
        e.is("gone", Edges.register("").anew(), -2);
    }

    // ---- what an ENTRY says, IMAGES ----

    private void rate() {
        e.promise(72, "An ENTRY says YEAR n (0 .. 20) from now on: what it said.");
        GallRegister x = Edges.register(Edges.ONE);
        e.is("20, beyond the last YEAR", x.rate(0, 20), 0);
        e.is("0", x.rate(0, 0), 20);
        e.is("the same", x.rate(0, 0), 0);
        e.is("says", x.entry(0, 3), 0);
        GallRegister full = Edges.register(Edges.FULL);
        e.is("of the last ENTRY", full.rate(6, 0), 20);
        e.is("says", full.entry(6, 3), 0);
        e.is("another one", full.entry(5, 3), 1);
    }

    private void rateRefused() {
        e.promise(72, "-5: there are acts (not taken back);");
        for (String book : new String[] {Edges.ONE, Edges.SAMPLE, Edges.FULL}) {
            GallRegister x = Edges.register(book);
            x.bleaches(0, 0);
            List<Long> before = Edges.state(x);
            e.is("one act", x.rate(0, 20), -5);
            e.is("of another ENTRY", x.rate(x.count(5) - 1, 0), -5);
            e.is("no YEAR is asked ahead", x.rate(0, 21), -2);
            e.is("no YEAR is asked ahead", x.rate(0, -1), -2);
            e.is("no ENTRY is asked ahead", x.rate(x.count(5), 0), -2);
            e.holds("all stays", Edges.state(x).equals(before));
            x.undo();
            e.is("taken back", x.rate(0, 20), 0);
            thirtyActs(x);
            e.is("30 acts", x.rate(0, 0), -5);
            x.anew();
            e.is("all taken back", x.rate(0, 0), 20);
        }
        e.promise(72, "-2: there are none such.");
        e.bounds("rate", -2, (r, a) -> r.rate(a[0], a[1]), Edges.ENTRY, Edges.from(0, 20));
    }

    private void image() {
        e.promise(74, "IMAGE k (0 .. 2) keeps the BOOK, and acts: 0.");
        for (String book : Edges.BOOKS) {
            for (int k = 0; k < 3; k++) {
                GallRegister x = Edges.register(book);
                thirtyActs(x);
                List<Long> before = Edges.state(x);
                e.is("image(" + k + ")", x.image(k), 0);
                e.holds("all stays", Edges.state(x).equals(before));
                Due.book(x, "book years 3 law 1 odds 2;page;");
                e.is("back(" + k + ")", x.back(k), 0);
                e.holds("as it was", Edges.state(x).equals(before));
            }
        }
        e.promise(74, "-2: no such k.");
        for (String book : Edges.BOOKS) {
            GallRegister x = Edges.register(book);
            for (int k : new int[] {-1, 3, Edges.MOST, Edges.LEAST}) {
                e.is("image(" + k + ")", x.image(k), -2);
            }
            for (int k = 0; k < 3; k++) {
                e.is("none is kept by it", x.back(k), -6);
            }
        }
    }

    private void back() {
        e.promise(75, "It is as IMAGE k has it: 0.");
        GallRegister x = Edges.register(Edges.SAMPLE);
        x.rate(3, 1);
        x.bleaches(0, 6);
        x.image(0);
        List<Long> first = Edges.state(x);
        x.anew();
        x.rate(3, 20);
        x.image(2);
        List<Long> second = Edges.state(x);
        e.is("back(0)", x.back(0), 0);
        e.holds("with its act", Edges.state(x).equals(first));
        x.undo();
        e.is("back(2)", x.back(2), 0);
        e.holds("without", Edges.state(x).equals(second));
        x.image(0);
        e.is("kept anew", x.back(0), 0);
        e.holds("as kept anew", Edges.state(x).equals(second));
        GallRegister none = new GallRegister();
        e.is("no BOOK is kept", none.image(1), 0);
        Due.book(none, Edges.ONE);
        e.is("back to no BOOK", none.back(1), 0);
        e.is("no BOOK", none.undo(), -2);
    }

    private void backRefused() {
        e.promise(75, "-2: no such k;");
        for (String book : Edges.BOOKS) {
            GallRegister x = Edges.register(book);
            for (int k : new int[] {-1, 3, Edges.MOST, Edges.LEAST}) {
                e.is("ahead of any image, back(" + k + ")", x.back(k), -2);
            }
            x.image(0);
            x.image(1);
            x.image(2);
            for (int k : new int[] {-1, 3, Edges.MOST, Edges.LEAST}) {
                e.is("back(" + k + ")", x.back(k), -2);
            }
        }
        e.promise(75, "-6: it has nothing.");
        for (String book : Edges.BOOKS) {
            GallRegister x = Edges.register(book);
            List<Long> before = Edges.state(x);
            for (int k = 0; k < 3; k++) {
                e.is("back(" + k + ")", x.back(k), -6);
            }
            x.image(1);
            e.is("another one", x.back(0), -6);
            e.is("another one", x.back(2), -6);
            e.holds("all stays", Edges.state(x).equals(before));
            e.is("that one", x.back(1), 0);
        }
    }

    // ---- SLOTS: what a row has is seen by laws() of ONE, whose ENTRY 0 has 1 in YEARS 0 and 1 ----

    private static void seen(GallRegister x, int slot, int width, long... numbers) {
        x.row(slot, width, numbers.length);
        for (int i = 0; i < numbers.length; i++) {
            x.write(slot, i, numbers[i]);
        }
    }

    private void row() {
        e.promise(76, "A SLOT (0 .. 3) has a row of n numbers of a WIDTH, all 0 (in place of another one): 0.");
        for (String book : Edges.BOOKS) {
            for (int slot = 0; slot < 4; slot++) {
                for (int width = 0; width < 4; width++) {
                    GallRegister x = Edges.register(book);
                    e.is("of 60", x.row(slot, width, 60), 0);
                    e.is("number 59", x.write(slot, 59, 1), 0);
                    e.is("number 60", x.write(slot, 60, 1), -7);
                    e.is("of 1 in its place", x.row(slot, width, 1), 0);
                    e.is("number 0", x.write(slot, 0, 1), 0);
                    e.is("number 1", x.write(slot, 1, 1), -7);
                    e.is("of 0 in its place", x.row(slot, width, 0), 0);
                    e.is("number 0", x.write(slot, 0, 1), -7);
                    e.is("rows", x.count(9), 1);
                }
            }
        }
        GallRegister x = Edges.register(Edges.ONE);
        seen(x, 0, 1, 0, 0, 1, 0, 1, 1);
        e.is("as written", x.laws(0), 15);
        x.row(0, 1, 6);
        e.is("all 0", x.laws(0), 0);
        x.write(0, 2, 1);
        e.is("the second triple, 0 0 0", x.laws(0), 0);
        x.write(0, 5, 1);
        e.is("0 0 1 twice", x.laws(0), 15);
        // Each of 60 numbers is 0 again.
        for (int i = 0; i < 60; i++) {
            x.row(2, 3, 60);
            x.write(2, i, 61);
            e.is("61 at " + i, x.laws(2), -2);
            x.row(2, 3, 60);
            e.is("0 again at " + i, x.laws(2), 0);
        }
    }

    private void rowRefused() {
        e.promise(76, "-2: there is no such SLOT or WIDTH (0 .. 3), or n is above 60;");
        int[][] refused = {{-1, 0, 0}, {4, 0, 0}, {0, -1, 0}, {0, 4, 0}, {0, 0, 61}, {3, 3, 61}, {Edges.LEAST, 0, 0}, {Edges.MOST, 0, 0},
            {0, Edges.LEAST, 0}, {0, Edges.MOST, 0}, {0, 0, Edges.MOST}};
        for (String book : Edges.BOOKS) {
            GallRegister x = Edges.register(book);
            for (int[] r : refused) {
                e.is("row(" + r[0] + ", " + r[1] + ", " + r[2] + ")", x.row(r[0], r[1], r[2]), -2);
            }
            e.is("no row", x.count(9), 0);
            x.row(0, 0, 60);
            for (int[] r : refused) {
                x.row(r[0], r[1], r[2]);
            }
            e.is("the row stays", x.write(0, 59, 0), 0);
        }
        GallRegister x = Edges.register(Edges.ONE);
        seen(x, 0, 0, 0, 0, 1);
        x.row(0, 4, 3);
        x.row(0, 0, 61);
        e.is("as written", x.laws(0), 15);
    }

    private void rowBelow0() {
        e.promise(76, "-3, and the SLOT stays: n is below 0.");
        for (String book : Edges.BOOKS) {
            GallRegister x = Edges.register(book);
            for (int slot = 0; slot < 4; slot++) {
                e.is("-1", x.row(slot, slot, -1), -3);
                e.is("the least", x.row(slot, slot, Edges.LEAST), -3);
                e.is("nothing stays nothing", x.write(slot, 0, 0), -6);
            }
            e.is("no row", x.count(9), 0);
            e.is("no SLOT is asked ahead", x.row(4, 0, -1), -2);
            e.is("no SLOT is asked ahead", x.row(-1, 0, -1), -2);
            e.is("no WIDTH is asked ahead", x.row(0, 4, -1), -2);
            e.is("no WIDTH is asked ahead", x.row(0, -1, -1), -2);
        }
        GallRegister x = Edges.register(Edges.ONE);
        seen(x, 0, 1, 0, 0, 1);
        e.is("-1", x.row(0, 0, -1), -3);
        e.is("the row stays", x.laws(0), 15);
        x.row(1, 1, 3);
        e.is("its WIDTH, too", x.paste(0, 0, 1, 0, 3), 0);
    }

    private void write() {
        e.promise(77, "Number i of the SLOT's row is v, cut to its WIDTH: 0.");
        GallRegister x = Edges.register(Edges.ONE);
        long[] cutTo1 = {1 + (1L << 8), 1 + (1L << 16), 1 + (1L << 32)};
        for (int width = 0; width < 4; width++) {
            x.row(1, width, 60);
            for (int i = 0; i < 60; i++) {
                e.is("number " + i, x.write(1, i, i % 3 == 2 ? 1 : 0), 0);
            }
            e.is("all as they are", x.laws(1), 15);
            for (int i = 0; i < 3; i++) {
                e.is("write", x.write(1, 59, cutTo1[i]), 0);
                e.is("width " + width + " of " + cutTo1[i], x.laws(1), i < width ? -2 : 15);
            }
            x.write(1, 59, -1);
            e.is("width " + width + " of -1", x.laws(1), -2);
            x.write(1, 59, Long.MAX_VALUE);
            e.is("width " + width + " of the most", x.laws(1), -2);
            x.write(1, 59, Long.MIN_VALUE + 1);
            e.is("width " + width + " of the least and 1", x.laws(1), width == 3 ? -2 : 15);
        }
        for (String book : Edges.BOOKS) {
            GallRegister any = Edges.register(book);
            any.row(3, 3, 1);
            e.is("whatever the BOOK", any.write(3, 0, Long.MIN_VALUE), 0);
        }
    }

    private void writeRefused() {
        e.promise(77, "-2: there is no such SLOT;");
        int[] none = {-1, 4, Edges.LEAST, Edges.MOST};
        for (String book : Edges.BOOKS) {
            GallRegister x = Edges.register(book);
            for (int slot : none) {
                e.is("nothing in any, write(" + slot + ")", x.write(slot, 0, 0), -2);
                e.is("and no number, write(" + slot + ")", x.write(slot, -1, 0), -2);
            }
            for (int slot = 0; slot < 4; slot++) {
                x.row(slot, 0, 60);
            }
            for (int slot : none) {
                e.is("rows in all, write(" + slot + ")", x.write(slot, 0, 0), -2);
            }
        }
        e.promise(77, "-6: it has nothing;");
        for (String book : Edges.BOOKS) {
            GallRegister x = Edges.register(book);
            for (int slot = 0; slot < 4; slot++) {
                for (int i : new int[] {0, 59, 60, -1, Edges.LEAST, Edges.MOST}) {
                    e.is("write(" + slot + ", " + i + ")", x.write(slot, i, 0), -6);
                }
                x.row(slot, 0, 1);
                e.is("it has a row", x.write(slot, 0, 0), 0);
            }
        }
        e.promise(77, "-7: there is no such number.");
        for (String book : Edges.BOOKS) {
            for (int n = 0; n <= 60; n++) {
                GallRegister x = Edges.register(book);
                x.row(2, 1, n);
                for (int i : new int[] {n, n + 1, 60, -1, Edges.LEAST, Edges.MOST}) {
                    e.is("of " + n + ", write(" + i + ")", x.write(2, i, 0), -7);
                }
                e.is("the last of " + n, x.write(2, n - 1, 0), n == 0 ? -7 : 0);
                e.is("the first of " + n, x.write(2, 0, 0), n == 0 ? -7 : 0);
            }
        }
    }

    private void paste() {
        e.promise(78, "So many numbers of a SLOT's row, from one on, are put to another one's (or its own), from one on, as they were: 0.");
        for (String book : Edges.BOOKS) {
            GallRegister any = Edges.register(book);
            any.row(0, 2, 60);
            any.row(3, 2, 60);
            e.is("all 60", any.paste(0, 0, 3, 0, 60), 0);
            e.is("the last to the first", any.paste(0, 59, 3, 0, 1), 0);
            e.is("the first to the last", any.paste(3, 0, 0, 59, 1), 0);
            e.is("none, behind the last", any.paste(0, 60, 3, 60, 0), 0);
            e.is("its own", any.paste(0, 0, 0, 0, 60), 0);
        }
        GallRegister x = Edges.register(Edges.ONE);
        seen(x, 0, 2, 0, 0, 1, 0, 1, 1);
        x.row(1, 2, 6);
        e.is("all but the last", x.paste(0, 0, 1, 0, 5), 0);
        e.is("the last one is 0", x.laws(1), 0);
        e.is("the last", x.paste(0, 5, 1, 5, 1), 0);
        e.is("as they were", x.laws(1), 15);
        x.write(0, 5, 0);
        e.is("put, not shared", x.laws(1), 15);
        // Its own, over one another: 0 0 1 | 0 0 0 | 0 0 0 on by three, and 0 | 0 0 1 ahead by one.
        seen(x, 2, 2, 0, 0, 1, 0, 0, 0, 0, 0, 0);
        e.is("on by three", x.paste(2, 0, 2, 3, 6), 0);
        x.write(2, 2, 1);
        e.is("as they were: the third is 0 0 0", x.laws(2), 0);
        x.write(2, 8, 1);
        e.is("the second is 0 0 1", x.laws(2), 15);
        seen(x, 3, 2, 0, 0, 0, 1, 0, 1);
        e.is("ahead by one", x.paste(3, 1, 3, 0, 5), 0);
        x.write(3, 5, 1);
        // 0 0 1 | 0 1 1
        e.is("as they were", x.laws(3), 15);
        wide();
    }

    /** A number of 8 bytes is put whole. */
    private void wide() {
        GallRegister x = Edges.register(Edges.ONE);
        seen(x, 0, 3, 0, 0, 1 + (1L << 32));
        seen(x, 1, 3, 0, 0, 1);
        e.is("put", x.paste(0, 2, 1, 2, 1), 0);
        e.is("whole", x.laws(1), -2);
    }

    private void pasteRefused() {
        e.promise(78, "-2: there is no such SLOT;");
        for (String book : Edges.BOOKS) {
            for (boolean rows : new boolean[] {false, true}) {
                GallRegister x = Edges.register(book);
                for (int slot = 0; slot < 4 && rows; slot++) {
                    x.row(slot, slot, 3);
                }
                for (int slot : new int[] {-1, 4, Edges.LEAST, Edges.MOST}) {
                    e.is("from " + slot, x.paste(slot, 0, 0, 0, 1), -2);
                    e.is("to " + slot, x.paste(0, 0, slot, 0, 1), -2);
                    e.is("both " + slot, x.paste(slot, 0, slot, 0, 1), -2);
                    e.is("to the last from " + slot, x.paste(slot, 0, 3, 0, 1), -2);
                    e.is("from the last to " + slot, x.paste(3, 0, slot, 0, 1), -2);
                    e.is("and beyond their rows", x.paste(slot, 4, 0, -1, -1), -2);
                }
            }
        }
        e.promise(78, "-6: one has nothing;");
        for (String book : Edges.BOOKS) {
            GallRegister x = Edges.register(book);
            x.row(1, 1, 3);
            int[][] none = {{0, 1}, {1, 0}, {0, 0}, {2, 3}, {3, 1}, {1, 3}};
            for (int[] n : none) {
                e.is("paste of " + n[0] + " to " + n[1], x.paste(n[0], 0, n[1], 0, 0), -6);
                e.is("and beyond their rows", x.paste(n[0], 4, n[1], 4, -1), -6);
            }
            e.is("its own", x.paste(1, 0, 1, 0, 3), 0);
        }
        e.promise(78, "-8: they are not of one WIDTH;");
        for (String book : Edges.BOOKS) {
            GallRegister x = Edges.register(book);
            for (int slot = 0; slot < 4; slot++) {
                x.row(slot, slot, 3);
            }
            for (int from = 0; from < 4; from++) {
                for (int to = 0; to < 4; to++) {
                    e.is("paste of " + from + " to " + to, x.paste(from, 0, to, 0, 3), from == to ? 0 : -8);
                    e.is("none of " + from + " to " + to, x.paste(from, 0, to, 0, 0), from == to ? 0 : -8);
                    e.is("beyond, of " + from + " to " + to, x.paste(from, 9, to, -1, 3), from == to ? -7 : -8);
                }
            }
        }
    }

    private void pasteBeyond() {
        e.promise(78, "-7, and nothing happens: some are beyond their rows (also where n is 0, a place above how many it has), or a place or n is below 0.");
        int least = Edges.LEAST;
        int most = Edges.MOST;
        int[][] want = {
            {0, 0, 3, 0}, {0, 0, 4, -7}, {3, 0, 3, 0}, {4, 0, 3, -7}, {6, 0, 1, -7}, {5, 0, 1, 0}, {0, 1, 2, 0}, {0, 1, 3, -7}, {0, 2, 1, 0}, {0, 3, 1, -7},
            {6, 3, 0, 0}, {7, 3, 0, -7}, {6, 4, 0, -7}, {-1, 0, 1, -7}, {0, -1, 1, -7}, {0, 0, -1, -7}, {-1, 0, 0, -7}, {0, -1, 0, -7}, {-1, -1, -1, -7},
            {1, 1, -1, -7}, {most, 0, 1, -7}, {0, most, 1, -7}, {0, 0, most, -7}, {most, most, most, -7}, {1, 1, most, -7}, {least, 0, 1, -7},
            {0, least, 1, -7}, {0, 0, least, -7}, {least, least, least, -7}, {most, 0, 0, -7}, {0, most, 0, -7}, {least, 0, most, -7}, {2, 0, most - 1, -7}};
        for (String book : Edges.BOOKS) {
            GallRegister x = Edges.register(book);
            x.row(0, 1, 6);
            x.row(1, 1, 3);
            for (int[] w : want) {
                e.is("paste(0, " + w[0] + ", 1, " + w[1] + ", " + w[2] + ")", x.paste(0, w[0], 1, w[1], w[2]), w[3]);
            }
            e.is("its own, beyond by one", x.paste(0, 1, 0, 0, 6), -7);
            e.is("its own, beyond by one", x.paste(0, 0, 0, 1, 6), -7);
            e.is("its own, within", x.paste(0, 1, 0, 0, 5), 0);
        }
        GallRegister x = Edges.register(Edges.ONE);
        for (int[] w : want) {
            seen(x, 0, 1, 0, 0, 5, 0, 0, 5);
            seen(x, 1, 1, 0, 0, 1);
            if (w[3] != 0) {
                x.paste(0, w[0], 1, w[1], w[2]);
                e.is("nothing happens", x.laws(1), 15);
            }
        }
    }

    private void pasteOrder() {
        e.promise(78, "-2: there is no such SLOT; -6: one has nothing; -8: they are not of one WIDTH; -7, and nothing happens:");
        GallRegister x = Edges.register(Edges.SAMPLE);
        x.row(0, 0, 3);
        x.row(1, 1, 3);
        e.is("no SLOT, nothing, beyond", x.paste(2, 9, 4, 9, 9), -2);
        e.is("nothing, no SLOT, beyond", x.paste(4, 9, 2, 9, 9), -2);
        e.is("no SLOT, beyond", x.paste(0, 9, 4, 9, 9), -2);
        e.is("nothing, beyond", x.paste(0, 9, 2, 9, 9), -6);
        e.is("nothing, below 0", x.paste(2, -1, 1, -1, -1), -6);
        e.is("unlike, beyond", x.paste(0, 9, 1, 9, 9), -8);
        e.is("unlike, below 0", x.paste(1, -1, 0, -1, -1), -8);
        e.is("beyond", x.paste(0, 9, 0, 9, 9), -7);
    }
}
