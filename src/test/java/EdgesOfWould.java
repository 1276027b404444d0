/** The bounds that promises 39, 40, 55 to 65, 70 and 71 name. */
final class EdgesOfWould {
    private final Edges e;

    EdgesOfWould(Edges e) {
        this.e = e;
    }

    void run() {
        by();
        law();
        later();
        other();
        hide();
        hideNot();
        save();
        saveNone();
        heavy();
        heavyNone();
        notWet();
        worth();
        share();
        rests();
        gets();
        getsRefused();
        chance();
        chanceRefused();
        mean();
        drawn();
        luck();
        luckRefused();
    }

    private static String ink(int rise, int top, int fade) {
        return "ink rise " + rise + " top " + top + " fade " + fade + ";";
    }

    private static String entry(int page, int ink, int wrote) {
        return "entry on " + page + " in " + ink + " wrote " + wrote + " says 0;";
    }

    private static GallRegister register(int years, int law, int odds, String lines) {
        return Due.told("book years " + years + " law " + law + " odds " + odds + ";" + lines);
    }

    /** One ENTRY that has its SHADE (20 at most) at once, and fades so. */
    private static GallRegister one(int years, int shade, int fade, int wrote) {
        return register(years, 0, 5, ink(shade, shade, fade) + "page;" + entry(0, 0, wrote));
    }

    private void by() {
        e.promise(39, "all() of the last YEAR by a LAW in place of the one told.");
        for (int law = 0; law < 4; law++) {
            GallRegister x = register(1, law, 5, ink(18, 18, 4) + ink(1, 1, 1) + "page damp;page;" + entry(0, 0, 0) + entry(1, 1, 0));
            e.row("by, told " + law, (r, a) -> r.by(a[0]), x, 14, 10, 15, 19, -2);
            e.is("the LAW stays", x.count(1), law);
            e.is("all() stays", x.all(1), new int[] {14, 10, 15, 19}[law]);
            x.retraces(0, 0, 1);
            e.row("by, acts as they are, told " + law, (r, a) -> r.by(a[0]), x, 18, 18, 19, 19, -2);
        }
        e.is("of no ENTRY", Edges.register(Edges.BARE).by(3), 0);
        e.promise(39, "-2: there is none such, no BOOK.");
        e.bounds("by", -2, (r, a) -> r.by(a[0]), Edges.from(0, 3));
    }

    private void law() {
        e.promise(40, "The LAW by which it is most, the least of several.");
        for (int law = 0; law < 4; law++) {
            String pages = "page damp;page;";
            e.is("3, told " + law, register(1, law, 5, ink(18, 18, 4) + pages + entry(0, 0, 0)).law(), 3);
            // In two YEARS 18 16, and 18 16 by LAW 3; 1 2 3 by LAW 2.
            String faced = ink(20, 20, 0) + ink(1, 1, 0) + pages + entry(0, 0, 0) + entry(1, 1, 0);
            e.is("2, told " + law, register(1, law, 5, faced).law(), 2);
            e.is("the least of all four, told " + law, register(1, law, 5, ink(18, 18, 0) + pages + entry(0, 0, 0)).law(), 0);
            e.is("the least of 0 to 2, told " + law, register(1, law, 5, ink(18, 18, 0) + pages + entry(1, 0, 0)).law(), 0);
            e.is("of no ENTRY, told " + law, register(1, law, 5, "").law(), 0);
        }
        // 2 and 3 both 19: the least of them.
        GallRegister two = register(1, 0, 5, ink(19, 19, 0) + ink(1, 1, 1) + "page;page;" + entry(0, 0, 0) + entry(1, 1, 0));
        e.row("by", (r, a) -> r.by(a[0]), two, 19, 19, 20, 20);
        e.is("the least of 2 and 3", two.law(), 2);
        GallRegister even = register(2, 0, 5, ink(18, 18, 4) + "page damp;" + entry(0, 0, 1));
        e.row("less in YEAR 2 alone, by", (r, a) -> r.by(a[0]), even, 14, 10, 14, 14);
        e.is("the least of 0, 2 and 3", even.law(), 0);
        e.promise(40, "-2: there is no BOOK.");
        e.bounds("law", -2, (r, a) -> r.law());
    }

    private void later() {
        e.promise(55, "SHADE that an ENTRY would have in the last YEAR, were it written n (0 .. 20) YEARS later (acts as now).");
        GallRegister x = register(20, 0, 5, ink(1, 60, 0) + "page;" + entry(0, 0, 0) + entry(0, 0, 5) + entry(0, 0, 20));
        for (int n = 0; n <= 20; n++) {
            e.is("later(0, " + n + ")", x.later(0, n), 21 - n);
            e.is("later(1, " + n + ")", x.later(1, n), Math.max(0, 16 - n));
            e.is("later(2, " + n + ")", x.later(2, n), n == 0 ? 1 : 0);
        }
        x.bleaches(0, 20);
        e.is("acts as now", x.later(0, 3), 8);
        e.is("acts as now, of one that is there no more", x.later(1, 16), 0);
        e.is("it stays", x.entry(0, 2), 0);
        e.is("beyond all", one(1, 9, 0, 20).later(0, 20), 0);
        e.promise(55, "-2: there are none such.");
        e.bounds("later", -2, (r, a) -> r.later(a[0], a[1]), Edges.ENTRY, Edges.from(0, 20));
    }

    private void other() {
        e.promise(56, "SHADE that it would have then, were it written in another INK (acts as now).");
        GallRegister x = Edges.register(Edges.FULL);
        long[][] want = {{1, 0, 0, 21}, {1, 0, 0, 21}, {1, 20, 1, 1}, {1, 20, 1, 1}, {1, 0, 0, 21}, {1, 0, 0, 20}, {1, 40, 0, 2}};
        for (int i = 0; i < 7; i++) {
            int entry = i;
            e.row("other(" + i + ", ..)", (r, a) -> r.other(entry, a[0]), x, want[i]);
        }
        x.bleaches(0, 20);
        e.row("acts as now", (r, a) -> r.other(0, a[0]), x, 0, 0, 0, 11);
        e.is("it stays", x.entry(0, 1), 0);
        e.is("never there", one(1, 9, 0, 2).other(0, 0), 0);
        e.promise(56, "-2 likewise.");
        e.bounds("other", -2, (r, a) -> r.other(a[0], a[1]), Edges.ENTRY, Edges.INK);
    }

    private void hide() {
        e.promise(57, "HIDE: how often (0 .. 9) an ENTRY must be BLEACHED in a YEAR (behind all acts of it) at least, so that its SHADE is below 5 in the "
                + "last one (in a YEAR in which it is not there nothing is done).");
        int[][] want = {{1, 0}, {4, 0}, {5, 1}, {14, 1}, {15, 2}, {20, 2}};
        for (int[] w : want) {
            GallRegister x = one(2, w[0], 0, 0);
            for (int year = 0; year <= 2; year++) {
                e.is("of " + w[0] + " in " + year, x.hide(0, year), w[1]);
            }
            e.is("no act comes", x.count(6), 0);
            e.is("SHADE stays", x.shade(0, 2), w[0]);
        }
        int[][] high = {{24, 2}, {25, 3}, {34, 3}, {35, 4}, {44, 4}, {45, 5}, {54, 5}, {55, 6}, {60, 6}};
        for (int[] h : high) {
            GallRegister x = register(3, 0, 5, ink(20, h[0], 0) + "page;" + entry(0, 0, 0));
            e.is("of " + h[0], x.hide(0, 3), h[1]);
        }
        GallRegister acts = one(2, 20, 0, 0);
        for (int i = 0; i < 30; i++) {
            acts.retraces(0, 0, 1);
        }
        e.is("behind 30 acts of it", acts.hide(0, 1), 2);
        e.is("behind them, in the last YEAR", acts.hide(0, 2), 2);
        acts.undo();
        acts.bleaches(0, 2);
        e.is("behind all acts, of 10", acts.hide(0, 2), 1);
        GallRegister late = one(2, 4, 0, 2);
        e.is("below 5, not there in YEAR 1", late.hide(0, 1), 0);
        e.is("never there", one(2, 9, 0, 3).hide(0, 0), 0);
    }

    private void hideNot() {
        e.promise(57, "NONE: not so;");
        GallRegister x = one(2, 5, 0, 1);
        e.is("not there yet", x.hide(0, 0), -1);
        e.is("there", x.hide(0, 1), 1);
        x.retraces(0, 0, 2);
        e.is("ahead of an act", x.hide(0, 1), -1);
        // By LAW 2 it has 1 more each YEAR: 5 in the last one, from 0 in YEAR 0; 4 from 0 in YEAR 1.
        GallRegister facing = register(5, 2, 5, ink(20, 20, 0) + ink(9, 9, 0) + "page;page;" + entry(0, 0, 0) + entry(1, 1, 0));
        e.is("it comes again", facing.hide(1, 0), -1);
        e.is("it comes again, to 4", facing.hide(1, 1), 1);
        e.promise(57, "-2: there are none such.");
        e.bounds("hide", -2, (r, a) -> r.hide(a[0], a[1]), Edges.ENTRY, Edges.YEAR);
    }

    private void save() {
        e.promise(58, "SAVE: the first YEAR in which an ENTRY, there, may be RETRACED with its INK as told (behind all acts of it) so that its SHADE is 5 or "
                + "more in the last one.");
        e.is("in YEAR 0", one(3, 5, 0, 0).save(0), 0);
        e.is("in the YEAR in which it is written", one(3, 5, 0, 2).save(0), 2);
        e.is("in the last YEAR", one(3, 5, 0, 3).save(0), 3);
        // 6 5 4 3: RETRACED in 1 it is 4 in 3, in 2 it is 5.
        e.is("5 in the last YEAR", one(3, 6, 1, 0).save(0), 2);
        GallRegister x = one(3, 9, 0, 0);
        x.bleaches(0, 3);
        e.is("behind all acts of it", x.save(0), 3);
        x.retraces(0, 0, 3);
        e.is("saved already: from the first on", x.save(0), 0);
        GallRegister told = register(3, 0, 5, ink(9, 9, 0) + ink(1, 1, 0) + "page;" + entry(0, 0, 0));
        told.retraces(0, 1, 1);
        e.is("with its INK as told", told.save(0), 1);
        for (int i = 1; i < 30; i++) {
            told.retraces(0, 1, 2);
        }
        e.is("30 acts", told.count(6), 30);
        e.is("behind 30 acts", told.save(0), 2);
        e.is("no act comes", told.count(6), 30);
    }

    private void saveNone() {
        e.promise(58, "NONE: in none;");
        e.is("4 at most", one(3, 4, 0, 0).save(0), -1);
        e.is("never there", one(3, 9, 0, 4).save(0), -1);
        e.is("RISES to 4", register(2, 0, 5, ink(2, 4, 0) + "page;" + entry(0, 0, 0)).save(0), -1);
        e.is("RISES to 5", register(2, 0, 5, ink(2, 5, 0) + "page;" + entry(0, 0, 0)).save(0), 0);
        e.promise(58, "-2: there is none such.");
        e.bounds("save", -2, (r, a) -> r.save(a[0]), Edges.ENTRY);
    }

    private void heavy() {
        e.promise(59, "The ENTRY that, never there (PLACES stay), makes all() of the last YEAR least, if less than now, the first of several.");
        String inks = ink(5, 5, 0) + ink(6, 6, 0) + ink(1, 1, 1) + "page;page;";
        e.is("the darkest", register(1, 0, 5, inks + entry(0, 0, 0) + entry(0, 1, 0) + entry(0, 1, 0)).heavy(), 1);
        e.is("the last", register(1, 0, 5, inks + entry(0, 2, 0) + entry(0, 2, 0) + entry(0, 2, 1)).heavy(), 2);
        // By LAW 2 the dark one is worth its 5 more.
        String faced = ink(20, 20, 0) + ink(3, 3, 0) + ink(19, 19, 0) + ink(10, 10, 0) + "page;page;page;page;";
        GallRegister x = register(5, 2, 5, faced + entry(0, 0, 0) + entry(1, 1, 0));
        e.is("all", x.all(5), 28);
        e.is("with what it brings", x.heavy(), 0);
        // Without the first on PAGE 0, the second one there would stand in its PLACE: PLACES stay, so none FACES.
        GallRegister places = register(5, 2, 5, faced + entry(0, 3, 0) + entry(0, 0, 0) + entry(1, 1, 0) + entry(2, 2, 0));
        e.is("all, PLACES", places.all(5), 10 + 20 + 3 + 19);
        e.is("PLACES stay", places.heavy(), 1);
        x.bleaches(0, 5);
        x.bleaches(0, 5);
        e.is("it is 0, and brings 5", x.heavy(), 1);
    }

    private void heavyNone() {
        e.promise(59, "NONE: none;");
        e.is("of no ENTRY", Edges.register(Edges.BARE).heavy(), -1);
        e.is("0 in the last YEAR", one(1, 1, 1, 0).heavy(), -1);
        e.is("1 in the last YEAR", one(1, 2, 1, 0).heavy(), 0);
        e.is("never there", one(1, 9, 0, 2).heavy(), -1);
        e.promise(59, "-2: there is no BOOK.");
        e.bounds("heavy", -2, (r, a) -> r.heavy());
    }

    /** What would be is not WET, and has the acts of all ENTRIES. */
    private void notWet() {
        GallRegister x = register(2, 0, 10, ink(6, 6, 0) + ink(9, 9, 0) + "page;" + entry(0, 0, 0) + entry(0, 1, 0));
        x.bleaches(1, 2);
        e.is("all(2)", x.all(2), 6);
        e.row("by", (r, a) -> r.by(a[0]), x, 6, 6, 6, 6);
        e.is("later by 0", x.later(0, 0), 6);
        e.is("later", x.later(0, 1), 6);
        e.is("later of the last ENTRY", x.later(1, 1), 0);
        e.is("other", x.other(0, 1), 9);
        e.is("other of the last ENTRY", x.other(1, 0), 0);
        e.is("hide", x.hide(0, 0), 1);
        e.is("hide of the last ENTRY", x.hide(1, 0), 0);
        e.is("save", x.save(0), 0);
        e.is("save of the last ENTRY", x.save(1), 2);
        e.is("heavy", x.heavy(), 0);
        // 9, were it WET 7, and one that RISES to 8.
        e.is("heavy", register(1, 0, 10, ink(9, 9, 0) + ink(4, 60, 0) + "page;" + entry(0, 0, 0) + entry(0, 1, 0)).heavy(), 0);
        e.is("gets", register(2, 0, 10, ink(6, 6, 0) + "page;page;" + entry(0, 0, 0)).gets(0, 1, 0, 0), 3);
    }

    private void worth() {
        e.promise(60, "WORTH (VI) of a set of ENTRIES (bits).");
        GallRegister x = Edges.register(Edges.FULL);
        // 1, 0, 1, 1, 21, 0, 1 in the last YEAR.
        int[][] want = {{0, 0}, {1, 1}, {2, 1}, {3, 2}, {64, 1}, {77, 1}, {34, 1}, {19, 3}, {126, 3}, {127, 3}, {128, -2}};
        for (int[] w : want) {
            e.is("worth(" + w[0] + ")", x.worth(w[0]), w[1]);
        }
        e.is("not there", one(1, 9, 0, 2).worth(1), 0);
        e.is("the empty set of no ENTRY", Edges.register(Edges.BARE).worth(0), 0);
        e.promise(60, "-2: there is no such set, no BOOK.");
        e.bounds("worth", -2, (r, a) -> r.worth(a[0]), Edges.SET);
    }

    private void share() {
        e.promise(61, "SHARE (VI) of an ENTRY, above (what 0), below (1).");
        GallRegister x = Edges.register(Edges.FULL);
        int[] below = {4, 2, 4, 4, 1, 2, 4};
        for (int i = 0; i < 7; i++) {
            e.is("share(" + i + ", 0)", x.share(i, 0), 1);
            e.is("share(" + i + ", 1)", x.share(i, 1), below[i]);
        }
        e.is("not there, above", one(1, 9, 0, 2).share(0, 0), 0);
        e.is("not there, below", one(1, 9, 0, 2).share(0, 1), 1);
        e.promise(61, "-2: there are none such.");
        e.bounds("share", -2, (r, a) -> r.share(a[0], a[1]), Edges.ENTRY, Edges.PART);
    }

    /** Two PAGES of a game: bounds() may not ask for one twice, so the other one is what is bounded. */
    private void game(String name, long refusal, Edges.Call call, Edges.Span... rest) {
        Edges.Span[] first = new Edges.Span[rest.length + 1];
        Edges.Span[] second = new Edges.Span[rest.length + 1];
        System.arraycopy(rest, 0, first, 1, rest.length);
        System.arraycopy(rest, 0, second, 1, rest.length);
        first[0] = r -> new int[] {1, r.count(4) - 1};
        second[0] = r -> new int[] {0, r.count(4) - 2};
        e.bounds(name + " with PAGE 0", refusal, (r, a) -> call.of(r, with(a, 0, a[0])), first);
        e.bounds(name + " of PAGE 0", refusal, (r, a) -> call.of(r, with(a, a[0], 0)), first);
        e.bounds(name + " with the last PAGE", refusal, (r, a) -> call.of(r, with(a, a[0], r.count(4) - 1)), second);
        e.bounds(name + " of the last PAGE", refusal, (r, a) -> call.of(r, with(a, r.count(4) - 1, a[0])), second);
        for (String book : Edges.BOOKS) {
            for (int page = -1; page < 5; page++) {
                GallRegister x = Edges.register(book);
                e.is(name + ", one twice, of " + book, call.of(x, new int[] {page, page, 0, 0}), refusal);
            }
        }
    }

    private static int[] with(int[] a, int page, int other) {
        return new int[] {page, other, a.length > 1 ? a[1] : 0, a.length > 2 ? a[2] : 0};
    }

    private void rests() {
        e.promise(62, "GAME (VII): pairs of choices of two PAGES at REST, as bits: 1 neither is turned, 2 the first one is, 4 the other one, 8 both.");
        String pages = ink(18, 18, 9) + "page damp;page;";
        e.is("the first one", register(1, 1, 5, pages + entry(0, 0, 0)).rests(0, 1), 2);
        e.is("the other one", register(1, 1, 5, pages + entry(0, 0, 0)).rests(1, 0), 4);
        e.is("neither", register(1, 0, 5, pages + entry(0, 0, 0)).rests(0, 1), 1);
        e.is("both", register(1, 1, 5, ink(18, 18, 9) + "page damp;page damp;" + entry(0, 0, 0) + entry(1, 0, 0)).rests(0, 1), 8);
        e.promise(62, "-2: there are none such, one twice.");
        game("rests", -2, (r, a) -> r.rests(a[0], a[1]));
    }

    private void gets() {
        e.promise(63, "What the first of two GETS by the choices (1 it is turned, 0 not; below 0, too).");
        String seven = ink(18, 18, 9) + "page damp;page damp;" + entry(0, 0, 0).repeat(7);
        GallRegister x = register(1, 1, 5, seven);
        int[][] want = {{0, 1, 0, 0, 0}, {0, 1, 0, 1, 0}, {0, 1, 1, 0, 20}, {0, 1, 1, 1, 20}, {1, 0, 0, 0, 0}, {1, 0, 0, 1, 0}, {1, 0, 1, 0, -1}, {1, 0, 1, 1, -1}};
        for (int[] w : want) {
            e.is("gets(" + w[0] + ", " + w[1] + ", " + w[2] + ", " + w[3] + ")", x.gets(w[0], w[1], w[2], w[3]), w[4]);
        }
        e.is("21 at most", register(1, 0, 5, seven).gets(0, 1, 0, 1), 21);
    }

    private void getsRefused() {
        e.promise(63, "-1,000: there are none such, one twice.");
        game("gets", -1000, (r, a) -> r.gets(a[0], a[1], a[2], a[3]), Edges.PART, Edges.PART);
        GallRegister x = Edges.register(Edges.SAMPLE);
        e.is("the other one's choice", x.gets(0, 1, 0, 2), -1000);
        e.is("-1 is what it GETS, not a refusal", Edges.register(Edges.FULL).gets(0, 2, 1, 0), -1);
    }

    private void chance() {
        e.promise(64, "CHANCE (VIII): that SHADE of an ENTRY is n (0 .. 60) or more in a YEAR (1 .. 8, one there is), above (what 0), below (1).");
        GallRegister x = register(8, 0, 5, ink(20, 60, 0) + ink(16, 16, 0) + "page;" + entry(0, 0, 0) + entry(0, 1, 0) + entry(0, 0, 9));
        int[][] want = {
            {0, 1, 40, 1, 1}, {0, 1, 41, 0, 1}, {0, 2, 60, 1, 1}, {0, 3, 60, 1, 2}, {0, 8, 60, 1, 64}, {0, 8, 59, 1, 64}, {0, 8, 58, 7, 64},
            {1, 1, 16, 1, 2}, {1, 1, 14, 1, 1}, {1, 8, 16, 1, 256}, {1, 8, 1, 255, 256}, {1, 8, 0, 1, 1}, {2, 8, 0, 1, 1}, {2, 8, 1, 0, 1}, {2, 8, 60, 0, 1}};
        for (int[] w : want) {
            String call = "chance(" + w[0] + ", " + w[1] + ", " + w[2];
            e.is(call + ", 0)", x.chance(w[0], w[1], w[2], 0), w[3]);
            e.is(call + ", 1)", x.chance(w[0], w[1], w[2], 1), w[4]);
        }
    }

    private void chanceRefused() {
        e.promise(64, "-2: there are none such.");
        e.bounds("chance", -2, (r, a) -> r.chance(a[0], a[1], a[2], a[3]), Edges.ENTRY, Edges.CHANCE_YEAR, Edges.from(0, 60), Edges.PART);
        for (int years = 1; years <= 20; years++) {
            GallRegister x = one(years, 9, 0, 0);
            for (int year = -1; year <= 21; year++) {
                boolean inside = year >= 1 && year <= 8 && year <= years;
                e.is("chance in " + year + " of " + years + " is refused", x.chance(0, year, 0, 1), inside ? 1 : -2);
                e.is("mean in " + year + " of " + years + " is refused", x.mean(year, 1) == -2 ? 1 : 0, inside ? 0 : 1);
            }
        }
    }

    private void mean() {
        e.promise(65, "The mean of all() of such a YEAR, above, below.");
        GallRegister x = register(8, 0, 5, ink(16, 16, 0) + "page;" + entry(0, 0, 0) + entry(0, 0, 9));
        // 1 less each YEAR in the mean, 0 never undershot.
        for (int year = 1; year <= 8; year++) {
            e.is("mean(" + year + ", 0)", x.mean(year, 0), 16 - year);
            e.is("mean(" + year + ", 1)", x.mean(year, 1), 1);
        }
        GallRegister odd = register(1, 0, 3, ink(1, 1, 0) + "page;" + entry(0, 0, 0));
        e.is("7 / 10 above", odd.mean(1, 0), 7);
        e.is("7 / 10 below", odd.mean(1, 1), 10);
        GallRegister most = register(8, 0, 0, ink(20, 60, 0) + "page;" + entry(0, 0, 0).repeat(7));
        e.is("420 above", most.mean(8, 0), 420);
        e.is("420 below", most.mean(8, 1), 1);
        e.is("0 above", register(8, 0, 5, "").mean(1, 0), 0);
        e.is("0 below", register(8, 0, 5, "").mean(1, 1), 1);
        e.promise(65, "-2: there are none such, no BOOK.");
        e.bounds("mean", -2, (r, a) -> r.mean(a[0], a[1]), Edges.CHANCE_YEAR, Edges.PART);
    }

    private void drawn() {
        e.promise(70, "Years drawn (VIII) from a seed (0 .. 2,000,000,000), what 0: YEARS from which it is WET, as bits, 1: clear() of the last one.");
        // Draws: 4 3 1 7 6 of seed 2,000,000,000; 0 8 8 7 8 of 0.
        String lines = ink(9, 9, 0) + ink(6, 6, 0) + "page;" + entry(0, 0, 0) + entry(0, 1, 0) + entry(0, 0, 5) + entry(0, 0, 6);
        int[][] want = {{0, 0, 7}, {2, 4, 5}, {4, 6, 5}, {5, 7, 4}, {7, 23, 4}, {8, 31, 4}, {10, 31, 4}};
        for (int[] w : want) {
            GallRegister x = register(5, 0, w[0], lines);
            e.is("drawn(2000000000, 0) by odds " + w[0], x.drawn(2000000000, 0), w[1]);
            e.is("drawn(2000000000, 1) by odds " + w[0], x.drawn(2000000000, 1), w[2]);
        }
        e.is("drawn(0, 0) by odds 8", register(5, 0, 8, lines).drawn(0, 0), 9);
        e.is("drawn(0, 1) by odds 8", register(5, 0, 8, lines).drawn(0, 1), 5);
        e.is("no bit of the last YEAR", register(1, 0, 10, "").drawn(0, 0), 1);
        e.is("of no ENTRY", register(20, 0, 10, "").drawn(0, 1), 0);
        e.promise(70, "-2: there are none such, no BOOK.");
        e.bounds("drawn", -2, (r, a) -> r.drawn(a[0], a[1]), Edges.from(0, 2000000000), Edges.PART);
    }

    private void luck() {
        e.promise(71, "Of n (1 .. 20) such from seeds, the seed and 1, .., in how many SHADE of an ENTRY is 5 or more in the last YEAR.");
        // The first draws of seeds 0 .. 5: 0 8 8 7 7 5; of 2,000,000,000 and the one behind it: 4 2.
        String lines = ink(6, 6, 0) + ink(7, 7, 0) + "page;" + entry(0, 0, 0) + entry(0, 1, 0) + entry(0, 1, 2);
        GallRegister x = register(1, 0, 8, lines);
        int[][] want = {{0, 1, 0, 0}, {0, 2, 0, 1}, {0, 3, 0, 2}, {0, 4, 0, 2}, {0, 6, 0, 2}, {1, 2, 0, 2}, {0, 6, 1, 6}, {0, 20, 2, 0}, {0, 20, 1, 20}};
        for (int[] w : want) {
            e.is("luck(" + w[0] + ", " + w[1] + ", " + w[2] + ")", x.luck(w[0], w[1], w[2]), w[3]);
        }
        GallRegister odds4 = register(1, 0, 4, lines);
        e.is("the last seed", odds4.luck(2000000000, 1, 0), 1);
        e.is("and the one behind it", odds4.luck(2000000000, 2, 0), 1);
        GallRegister odds3 = register(1, 0, 3, lines);
        e.is("the last but one, and the last", odds3.luck(1999999999, 2, 0), 2);
    }

    private void luckRefused() {
        e.promise(71, "-2: there are none such.");
        e.bounds("luck", -2, (r, a) -> r.luck(a[0], a[1], a[2]), Edges.from(0, 2000000000), Edges.from(1, 20), Edges.ENTRY);
    }
}
