import java.util.List;

/** The bounds that promises 1 to 10 and 73 name. */
final class EdgesOfText {
    private static final String INK = "ink rise 5 top 20 fade 1;";

    private final Edges e;

    EdgesOfText(Edges e) {
        this.e = e;
    }

    void run() {
        newObject();
        feed();
        feedTooMany();
        end();
        endRefused();
        book();
        bookFaulty();
        fault();
        faultOfNone();
        ink();
        page();
        entry();
        on();
        faces();
        count();
        countOfOthers();
    }

    private void newObject() {
        e.promise(1, "No BOOK.");
        GallRegister x = new GallRegister();
        for (int what = 0; what < 10; what++) {
            e.is("count(" + what + ")", x.count(what), 0);
        }
        e.is("undo", x.undo(), -2);
        e.is("there(0)", x.there(0), -2);
        e.is("peaks", x.peaks(), -2);
        e.is("back(0)", x.back(0), -6);
        e.is("write(0, 0)", x.write(0, 0, 0), -6);
        e.is("end(1)", x.end(1), -1);
        e.is("book()", x.book(), 0);
    }

    private static int feed(GallRegister x, int n) {
        int got = 0;
        for (int i = 0; i < n; i++) {
            got = x.feed(0x20202020, 0x20202020, 0x20202020, 0x20202020, 0x20202020);
        }
        return got;
    }

    private void feed() {
        e.promise(2, "Twenty bytes come behind the TAPE, four of each number, the highest first: how many it has;");
        for (String book : Edges.BOOKS) {
            GallRegister x = Edges.register(book);
            e.is("of an empty TAPE", feed(x, 1), 20);
            e.is("of one with 20", feed(x, 1), 40);
            x.end(7);
            e.is("of one with 7", feed(x, 1), 27);
        }
        // Each of the twenty bytes in its place: the first one that is no blank is at fault there.
        for (int at = 0; at < 20; at++) {
            for (int sign : new int[] {'-', 128, 255}) {
                GallRegister x = new GallRegister();
                int[] n = {0x20202020, 0x20202020, 0x20202020, 0x20202020, 0x20202020};
                int shift = 24 - 8 * (at % 4);
                n[at / 4] = n[at / 4] & ~(255 << shift) | sign << shift;
                x.feed(n[0], n[1], n[2], n[3], n[4]);
                e.is("byte " + at + " is " + sign, x.book(), -4);
                e.is("byte " + at + " is " + sign, x.fault(1), at);
            }
        }
    }

    private void feedTooMany() {
        e.promise(2, "NONE, and none come, if it would have more than 700.");
        for (String book : Edges.BOOKS) {
            GallRegister x = Edges.register(book);
            e.is("700", feed(x, 35), 700);
            e.is("720", feed(x, 1), -1);
            e.is("none come", x.count(8), 700);
            e.is("end(681)", x.end(681), 681);
            e.is("701", feed(x, 1), -1);
            e.is("none come", x.count(8), 681);
            e.is("end(680)", x.end(680), 680);
            e.is("700", feed(x, 1), 700);
            e.is("700, all blanks", x.book(), 0);
            e.is("empty", feed(x, 1), 20);
        }
        // The 700th byte is read.
        GallRegister x = new GallRegister();
        feed(x, 34);
        x.feed(0x20202020, 0x20202020, 0x20202020, 0x20202020, 0x2020202d);
        e.is("the 700th byte", x.book(), -4);
        e.is("its place", x.fault(1), 699);
        feed(x, 34);
        x.feed(0x20202020, 0x20202020, 0x20202020, 0x20202020, 0x2020626f);
        e.is("a word to the 700th byte", x.book(), -4);
        e.is("its place", x.fault(1), 698);
    }

    private void end() {
        e.promise(3, "The TAPE has its first n bytes alone: n;");
        for (String book : Edges.BOOKS) {
            GallRegister x = Edges.register(book);
            e.is("none of none", x.end(0), 0);
            feed(x, 35);
            e.is("all of 700", x.end(700), 700);
            e.is("all but one", x.end(699), 699);
            e.is("one", x.end(1), 1);
            e.is("bytes", x.count(8), 1);
            e.is("none", x.end(0), 0);
            e.is("bytes", x.count(8), 0);
        }
        // What came behind is gone: the 21st byte is fed anew.
        GallRegister x = new GallRegister();
        Due.feed(x, "book years 6 law 0 odds 5;page damp;----");
        x.end(26);
        e.is("the first LINE alone", x.book(), 1);
        e.is("no PAGE", x.count(4), 0);
    }

    private void endRefused() {
        e.promise(3, "NONE, and nothing happens, if it has not so many, or n is below 0.");
        for (String book : Edges.BOOKS) {
            GallRegister x = Edges.register(book);
            for (int n : new int[] {1, 20, 700, 701, -1, Edges.MOST, Edges.LEAST}) {
                e.is("of none " + n, x.end(n), -1);
                e.is("bytes", x.count(8), 0);
            }
            Due.feed(x, "book years 9 law 0 odds 5;");
            for (int n : new int[] {27, 40, -1, Edges.MOST, Edges.LEAST}) {
                e.is("of 26 " + n, x.end(n), -1);
                e.is("bytes", x.count(8), 26);
            }
            e.is("nothing happens", x.book(), 1);
            e.is("years", x.count(0), 9);
        }
    }

    private void book() {
        e.promise(4, "The TAPE (empty then) is the BOOK (in place of another), nothing done: how many LINES (0: there is none then).");
        for (String book : Edges.BOOKS) {
            GallRegister x = Edges.register(book);
            if (x.count(5) > 0) {
                x.bleaches(0, 0);
            }
            e.is("16 LINES", Due.book(x, "book years 20 law 0 odds 5;" + INK.repeat(4) + "page;".repeat(4)
                    + "entry on 0 in 0 wrote 0 says 0;".repeat(7)), 16);
            e.is("TAPE", x.count(8), 0);
            e.is("acts", x.count(6), 0);
            e.is("LINES", x.count(7), 16);
            x.bleaches(0, 0);
            e.is("1 LINE", Due.book(x, "book years 1 law 0 odds 5;"), 1);
            e.is("acts", x.count(6), 0);
            e.is("LINES", x.count(7), 1);
            e.is("ENTRIES", x.count(5), 0);
            e.is("0 LINES", x.book(), 0);
            e.is("none then", x.there(0), -2);
            e.is("none then", x.peaks(), -2);
            e.is("0 LINES of blanks", Due.book(x, "\n"), 0);
            e.is("TAPE", x.count(8), 0);
        }
    }

    private void bookFaulty() {
        e.promise(4, "-4: a FAULT (the TAPE is empty, all else stays).");
        String[] texts = {"x", "book", "book years 9 law 2 odds 3", "book years 9 law 2 odds 3;" + INK + "page damp;"
            + "entry on 0 in 0 wrote 3 says 21;", "book years 9 law 2 odds 3;" + "page;".repeat(5)};
        for (String text : texts) {
            bookFaulty(text);
        }
    }

    private void bookFaulty(String text) {
        for (String book : Edges.BOOKS) {
            GallRegister x = Edges.register(book);
            if (x.count(5) > 0) {
                x.bleaches(0, x.count(0));
                x.retraces(0, 0, 0);
            }
            x.image(1);
            x.row(2, 3, 60);
            List<Long> before = Edges.state(x);
            e.is("book of " + text, Due.book(x, text), -4);
            e.is("TAPE", x.count(8), 0);
            e.holds("all else stays behind " + text, Edges.state(x).equals(before));
            e.is("IMAGES stay", x.back(1), 0);
            e.holds("all else stays", Edges.state(x).equals(before));
            e.is("SLOTS stay", x.write(2, 59, 0), 0);
        }
    }

    private void fault() {
        e.promise(5, "Of the latest book(), what 0: its FAULT, 0 without, 1: its place (NONE without).");
        for (String book : Edges.BOOKS) {
            GallRegister x = Edges.register(book);
            int[][] want = {{1, 0}, {2, 11}, {3, 46}};
            String[] texts = {"-", "book years 0", "book years 1 law 0 odds 0;page;page;page;page;page;"};
            for (int i = 0; i < texts.length; i++) {
                Due.book(x, texts[i]);
                e.is("fault of " + texts[i], x.fault(0), want[i][0]);
                e.is("place in " + texts[i], x.fault(1), want[i][1]);
            }
            x.end(1);
            feed(x, 1);
            e.is("ahead of the next book()", x.fault(0), 3);
            e.is("0 LINES", x.book(), 0);
            e.is("without", x.fault(0), 0);
            e.is("without", x.fault(1), -1);
            Due.book(x, "-");
            Due.book(x, Edges.ONE);
            e.is("without", x.fault(0), 0);
            e.is("without", x.fault(1), -1);
        }
    }

    private void faultOfNone() {
        e.promise(5, "NONE for another what, and ahead of any (what 1).");
        GallRegister none = new GallRegister();
        e.is("ahead of any, what 1", none.fault(1), -1);
        e.is("ahead of any, what 0", none.fault(0), 0);
        for (String book : Edges.BOOKS) {
            GallRegister x = Edges.register(book);
            for (int what : new int[] {2, -1, Edges.MOST, Edges.LEAST}) {
                e.is("what " + what, x.fault(what), -1);
            }
            Due.book(x, "book years 0");
            for (int what : new int[] {2, -1, Edges.MOST, Edges.LEAST}) {
                e.is("of a FAULT, what " + what, x.fault(what), -1);
            }
        }
    }

    private void ink() {
        e.promise(6, "Of an INK, what 0: rise, 1: top, 2: fade.");
        GallRegister x = Edges.register(Edges.FULL);
        int[][] want = {{1, 1, 0}, {20, 60, 9}, {20, 1, 9}, {1, 60, 0}};
        for (int i = 0; i < 4; i++) {
            for (int what = 0; what < 3; what++) {
                e.is("ink(" + i + ", " + what + ")", x.ink(i, what), want[i][what]);
            }
        }
        e.promise(6, "-2: there are none such.");
        e.bounds("ink", -2, (r, a) -> r.ink(a[0], a[1]), Edges.INK, Edges.from(0, 2));
    }

    private void page() {
        e.promise(7, "1 if a PAGE is damp, else 0.");
        e.row("page", (r, a) -> r.page(a[0]), Edges.register(Edges.FULL), 0, 1, 0, 1);
        e.promise(7, "-2: there is none such.");
        e.bounds("page", -2, (r, a) -> r.page(a[0]), Edges.PAGE);
    }

    private void entry() {
        e.promise(8, "Of an ENTRY, what 0: its PAGE, 1: its INK, 2: the YEAR in which it was written, 3: that which it says, 4: its PLACE.");
        GallRegister x = Edges.register(Edges.FULL);
        int[][] want = {{0, 0, 0, 0, 0}, {1, 1, 0, 20, 0}, {2, 2, 20, 0, 0}, {3, 3, 20, 20, 0}, {3, 3, 0, 0, 1}, {0, 1, 1, 1, 1}, {3, 0, 19, 20, 2}};
        for (int i = 0; i < 7; i++) {
            for (int what = 0; what < 5; what++) {
                e.is("entry(" + i + ", " + what + ")", x.entry(i, what), want[i][what]);
            }
        }
        e.promise(8, "-2: there are none such.");
        e.bounds("entry", -2, (r, a) -> r.entry(a[0], a[1]), Edges.ENTRY, Edges.from(0, 4));
    }

    private void on() {
        e.promise(9, "ENTRIES on a PAGE, as bits.");
        e.row("on", (r, a) -> r.on(a[0]), Edges.register(Edges.FULL), 33, 2, 4, 88);
        GallRegister x = Edges.register("book years 1 law 0 odds 0;" + INK + "page;page;" + "entry on 1 in 0 wrote 20 says 0;".repeat(7));
        e.row("none and all, never there", (r, a) -> r.on(a[0]), x, 0, 127);
        e.promise(9, "-2: there is none such.");
        e.bounds("on", -2, (r, a) -> r.on(a[0]), Edges.PAGE);
    }

    private void faces() {
        e.promise(10, "The ENTRY that FACES (II) an ENTRY.");
        e.row("faces", (r, a) -> r.faces(a[0]), Edges.register(Edges.FULL), 1, 0, 3, 2);
        e.promise(10, "NONE: none;");
        GallRegister x = Edges.register(Edges.FULL);
        for (int i = 4; i < 7; i++) {
            e.is("faces(" + i + ")", x.faces(i), -1);
        }
        e.is("of one alone", Edges.register(Edges.ONE).faces(0), -1);
        e.promise(10, "-2: there is none such.");
        e.bounds("faces", -2, (r, a) -> r.faces(a[0]), Edges.ENTRY);
    }

    private void count() {
        e.promise(73, "0 years, 1 LAW, 2 odds, 3 INKS, 4 PAGES, 5 ENTRIES, 6 acts, 7 LINES, 8 bytes of the TAPE, 9 SLOTS that have a row.");
        long[][] want = {{0, 0, 0, 0, 0, 0, 0, 0, 0, 0}, {0, 0, 0, 0, 0, 0, 0, 0, 0, 0}, {1, 0, 0, 0, 0, 0, 0, 1, 0, 0}, {1, 0, 0, 1, 1, 1, 0, 4, 0, 0},
            {6, 0, 5, 2, 2, 4, 0, 9, 0, 0}, {20, 3, 10, 4, 4, 7, 0, 16, 0, 0}};
        for (int i = 0; i < want.length; i++) {
            e.row("count of " + Edges.BOOKS[i], (r, a) -> r.count(a[0]), Edges.register(Edges.BOOKS[i]), want[i]);
        }
        GallRegister x = Edges.register(Edges.SAMPLE);
        for (int i = 1; i <= 30; i++) {
            x.bleaches(0, 0);
            e.is("acts", x.count(6), i);
        }
        x.bleaches(0, 0);
        e.is("acts", x.count(6), 30);
        feed(x, 35);
        e.is("bytes", x.count(8), 700);
        for (int slot = 0; slot < 4; slot++) {
            x.row(slot, 0, 0);
            e.is("rows, of 0 numbers, too", x.count(9), slot + 1);
        }
        x.row(3, 3, 60);
        e.is("rows", x.count(9), 4);
    }

    private void countOfOthers() {
        e.promise(73, "NONE for others.");
        for (String book : Edges.BOOKS) {
            GallRegister x = Edges.register(book);
            for (int what : new int[] {10, -1, 11, Edges.MOST, Edges.LEAST}) {
                e.is("count(" + what + ") of " + book, x.count(what), -1);
            }
        }
    }
}
