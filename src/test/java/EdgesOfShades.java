/** The bounds that promises 11 to 27, 41 to 49 and 51 to 54 name. */
final class EdgesOfShades {
    private final Edges e;
    /** SHADES 5 10 15 20 19 18 17 | - - 3 6 9 7 5 | - 5 10 15 20 19 18, two such. */
    private final GallRegister sample = Edges.register(Edges.SAMPLE);
    /** In 20 YEARS by LAW 3: 1 .. | 20 40 60 60 51 51 42 42 .. 6 6 0 | 1 in 20 | 1 in 20 | 1 2 .. 21 | - 20 40 60 51 .. 0 | 1 in 19, 20. */
    private final GallRegister full = Edges.register(Edges.FULL);
    private final GallRegister bare = Edges.register(Edges.BARE);

    EdgesOfShades(Edges e) {
        this.e = e;
    }

    void run() {
        there();
        shade();
        peak();
        ripe();
        blank();
        clear();
        all();
        darkest();
        palest();
        sorts();
        alike();
        rising();
        paling();
        cross();
        swaps();
        put();
        lies();
        bold();
        sum();
        spread();
        uses();
        newest();
        oldest();
        steady();
        falls();
        age();
        peaks();
        lasts();
        order();
        match();
    }

    private static String ink(int rise, int top, int fade) {
        return "ink rise " + rise + " top " + top + " fade " + fade + ";";
    }

    private static String entry(int page, int ink, int wrote) {
        return "entry on " + page + " in " + ink + " wrote " + wrote + " says 0;";
    }

    private static GallRegister register(int years, String lines) {
        return Due.told("book years " + years + " law 0 odds 5;" + lines);
    }

    /** One ENTRY on PAGE 0 with an INK that has its SHADE at once, and fades so. */
    private static GallRegister one(int years, int shade, int fade, int wrote) {
        return register(years, ink(Math.min(shade, 20), shade, fade) + "page;" + entry(0, 0, wrote));
    }

    /** Seven of these SHADES, or fewer, on PAGE 0, from YEAR 1 on, never less. */
    private static GallRegister of(int... shades) {
        StringBuilder inks = new StringBuilder();
        StringBuilder entries = new StringBuilder();
        int told = 0;
        int[] known = new int[4];
        for (int shade : shades) {
            int at = 0;
            while (at < told && known[at] != shade) {
                at++;
            }
            if (at == told) {
                known[told++] = shade;
                inks.append(ink(shade, shade, 0));
            }
            entries.append(entry(0, at, 1));
        }
        return register(2, inks + "page;page;" + entries);
    }

    private void there() {
        e.promise(11, "ENTRIES that are there in a YEAR, as bits.");
        e.row("there", (r, a) -> r.there(a[0]), sample, 1, 13, 15, 15, 15, 15, 15, -2);
        e.is("full there(0)", full.there(0), 19);
        e.is("full there(1)", full.there(1), 51);
        e.is("full there(18)", full.there(18), 51);
        e.is("full there(19)", full.there(19), 115);
        e.is("full there(20)", full.there(20), 127);
        e.is("none there", bare.there(0), 0);
        GallRegister x = register(5, ink(1, 1, 0) + "page;" + entry(0, 0, 5) + entry(0, 0, 6));
        e.row("in the last YEAR, and beyond", (r, a) -> r.there(a[0]), x, 0, 0, 0, 0, 0, 1, -2);
        e.promise(11, "-2: there is none such, no BOOK.");
        e.bounds("there", -2, (r, a) -> r.there(a[0]), Edges.YEAR);
    }

    private void shade() {
        e.promise(12, "SHADE (III) of an ENTRY in a YEAR (0: it is not there yet).");
        e.shades("sample", sample, 0, 5, 10, 15, 20, 19, 18, 17, -2);
        e.shades("sample", sample, 1, 0, 0, 3, 6, 9, 7, 5, -2);
        e.shades("sample", sample, 2, 0, 5, 10, 15, 20, 19, 18, -2);
        e.shades("full", full, 1, 20, 40, 60, 60, 51, 51, 42, 42, 33, 33, 24, 24, 15, 15, 6, 6, 0, 0, 0, 0, 0, -2);
        e.shades("full", full, 4, 1, 2, 3, 4, 5, 6, 7, 8, 9, 10, 11, 12, 13, 14, 15, 16, 17, 18, 19, 20, 21, -2);
        e.shades("full", full, 6, 0, 0, 0, 0, 0, 0, 0, 0, 0, 0, 0, 0, 0, 0, 0, 0, 0, 0, 0, 1, 1, -2);
        e.shades("full", full, 2, 0, 0, 0, 0, 0, 0, 0, 0, 0, 0, 0, 0, 0, 0, 0, 0, 0, 0, 0, 0, 1, -2);
        e.promise(12, "-2: there are none such.");
        e.bounds("shade", -2, (r, a) -> r.shade(a[0], a[1]), Edges.ENTRY, Edges.YEAR);
    }

    private void peak() {
        e.promise(13, "The greatest SHADE of an ENTRY in any YEAR.");
        e.row("peak", (r, a) -> r.peak(a[0]), sample, 20, 9, 20, 20, -2);
        e.row("full peak", (r, a) -> r.peak(a[0]), full, 1, 60, 1, 1, 21, 60, 1, -2);
        e.is("in YEAR 0", one(3, 9, 1, 0).peak(0), 9);
        e.is("in the last YEAR", one(3, 9, 1, 3).peak(0), 9);
        e.is("never there", one(3, 9, 1, 4).peak(0), 0);
        GallRegister x = one(3, 9, 1, 3);
        x.bleaches(0, 3);
        e.is("BLEACHED to 0 at once", x.peak(0), 0);
        e.promise(13, "-2: there is none such.");
        e.bounds("peak", -2, (r, a) -> r.peak(a[0]), Edges.ENTRY);
    }

    private void ripe() {
        e.promise(14, "The first YEAR in which it has that (0, if it is 0).");
        e.row("ripe", (r, a) -> r.ripe(a[0]), sample, 3, 4, 4, 4, -2);
        e.row("full ripe", (r, a) -> r.ripe(a[0]), full, 0, 2, 20, 20, 20, 3, 19, -2);
        e.is("in YEAR 0", one(3, 9, 1, 0).ripe(0), 0);
        e.is("the first", one(3, 9, 0, 1).ripe(0), 1);
        e.is("in the last YEAR", one(3, 9, 1, 3).ripe(0), 3);
        e.is("never there", one(3, 9, 1, 4).ripe(0), 0);
        GallRegister x = one(3, 9, 1, 3);
        x.bleaches(0, 3);
        e.is("BLEACHED to 0 at once", x.ripe(0), 0);
        GallRegister again = one(3, 9, 1, 0);
        again.retraces(0, 0, 2);
        e.is("again, later", again.ripe(0), 0);
        e.promise(14, "-2 likewise.");
        e.bounds("ripe", -2, (r, a) -> r.ripe(a[0]), Edges.ENTRY);
    }

    private void blank() {
        e.promise(15, "The first YEAR, when it is there, in which its SHADE is 0.");
        e.is("full blank(1)", full.blank(1), 16);
        e.is("full blank(5)", full.blank(5), 16);
        e.is("to 0 in the last YEAR", one(3, 6, 2, 0).blank(0), 3);
        e.is("the first of several", one(3, 6, 3, 0).blank(0), 2);
        GallRegister x = one(3, 9, 0, 2);
        x.bleaches(0, 2);
        e.is("at once, not ahead", x.blank(0), 2);
        GallRegister zero = one(3, 9, 0, 0);
        zero.bleaches(0, 0);
        zero.retraces(0, 0, 1);
        e.is("in YEAR 0", zero.blank(0), 0);
        e.promise(15, "NONE: in none;");
        e.row("none", (r, a) -> r.blank(a[0]), sample, -1, -1, -1, -1, -2);
        e.is("1 in the last YEAR", one(3, 7, 2, 0).blank(0), -1);
        e.is("never there", one(3, 9, 9, 4).blank(0), -1);
        e.promise(15, "-2 likewise.");
        e.bounds("blank", -2, (r, a) -> r.blank(a[0]), Edges.ENTRY);
    }

    private void clear() {
        e.promise(16, "ENTRIES whose SHADE is 5 or more in a YEAR, as bits.");
        e.row("clear", (r, a) -> r.clear(a[0]), sample, 1, 13, 13, 15, 15, 15, 15, -2);
        GallRegister x = of(4, 5, 6);
        e.is("4 5 6", x.clear(1), 6);
        e.is("not there", x.clear(0), 0);
        e.is("all", of(5, 5, 5, 5, 5, 5, 5).clear(2), 127);
        e.is("none", bare.clear(1), 0);
        e.promise(16, "-2: there is none such, no BOOK.");
        e.bounds("clear", -2, (r, a) -> r.clear(a[0]), Edges.YEAR);
    }

    private void all() {
        e.promise(17, "SHADES of all in a YEAR, together.");
        e.row("all", (r, a) -> r.all(a[0]), sample, 5, 20, 38, 56, 68, 63, 58, -2);
        e.is("at most", register(2, ink(20, 60, 0) + "page;" + entry(0, 0, 0).repeat(7)).all(2), 420);
        e.is("not there", of(9, 9).all(0), 0);
        e.is("none", bare.all(0), 0);
        e.promise(17, "-2 likewise.");
        e.bounds("all", -2, (r, a) -> r.all(a[0]), Edges.YEAR);
    }

    private void darkest() {
        e.promise(18, "The ENTRY, there, that is darkest (has most SHADE) in a YEAR, the first of several.");
        e.row("darkest", (r, a) -> r.darkest(a[0]), sample, 0, 0, 0, 0, 2, 2, 2, -2);
        e.is("the first", of(4, 9, 9, 4).darkest(1), 1);
        e.is("the last", of(4, 4, 4, 4, 4, 4, 9).darkest(1), 6);
        GallRegister x = register(1, ink(1, 1, 1) + "page;" + entry(0, 0, 2) + entry(0, 0, 0));
        e.is("of SHADE 0, there", x.darkest(1), 1);
        e.promise(18, "NONE: none is there;");
        e.is("not yet", of(9).darkest(0), -1);
        e.is("of no ENTRY", bare.darkest(0), -1);
        e.promise(18, "-2 likewise.");
        e.bounds("darkest", -2, (r, a) -> r.darkest(a[0]), Edges.YEAR);
    }

    private void palest() {
        e.promise(19, "That which is palest, likewise.");
        e.row("palest", (r, a) -> r.palest(a[0]), sample, 0, 2, 1, 1, 1, 1, 1, -2);
        e.is("the first", of(9, 4, 4, 9).palest(1), 1);
        e.is("the last", of(9, 9, 9, 9, 9, 9, 4).palest(1), 6);
        GallRegister x = register(1, ink(9, 9, 0) + "page;" + entry(0, 0, 2) + entry(0, 0, 0));
        e.is("not there is not the palest", x.palest(1), 1);
        e.is("not yet", of(9).palest(0), -1);
        e.is("of no ENTRY", bare.palest(0), -1);
        e.bounds("palest", -2, (r, a) -> r.palest(a[0]), Edges.YEAR);
    }

    private void sorts() {
        e.promise(20, "How many unlike SHADES those have that are there.");
        e.row("sorts", (r, a) -> r.sorts(a[0]), sample, 1, 2, 3, 3, 3, 3, 3, -2);
        e.is("one sort of seven", of(5, 5, 5, 5, 5, 5, 5).sorts(1), 1);
        e.is("four", of(5, 6, 7, 8, 8, 7, 6).sorts(1), 4);
        GallRegister x = register(7, ink(1, 60, 0) + "page;" + entry(0, 0, 1) + entry(0, 0, 2) + entry(0, 0, 3) + entry(0, 0, 4)
                + entry(0, 0, 5) + entry(0, 0, 6) + entry(0, 0, 7));
        e.row("up to seven", (r, a) -> r.sorts(a[0]), x, 0, 1, 2, 3, 4, 5, 6, 7);
        GallRegister ends = register(2, ink(20, 60, 0) + ink(1, 1, 1) + "page;" + entry(0, 0, 0) + entry(0, 1, 0) + entry(0, 0, 3));
        e.is("60, 0, and not there", ends.sorts(2), 2);
        e.is("of no ENTRY", bare.sorts(1), 0);
        e.promise(20, "-2: there is no such YEAR, no BOOK.");
        e.bounds("sorts", -2, (r, a) -> r.sorts(a[0]), Edges.YEAR);
    }

    private void alike() {
        e.promise(21, "Pairs of ENTRIES, both there, of like SHADE: how many.");
        e.row("alike", (r, a) -> r.alike(a[0]), sample, 0, 1, 1, 1, 1, 1, 1, -2);
        e.is("21 of seven", of(5, 5, 5, 5, 5, 5, 5).alike(1), 21);
        e.is("three and one", of(5, 5, 5, 6, 6).alike(1), 4);
        e.is("off by 1", of(5, 6).alike(1), 0);
        e.is("one", of(5).alike(1), 0);
        e.is("neither there", of(5, 5).alike(0), 0);
        GallRegister x = register(1, ink(1, 1, 1) + "page;" + entry(0, 0, 2) + entry(0, 0, 0) + entry(0, 0, 0));
        e.is("0, and one not there", x.alike(1), 1);
        e.promise(21, "-2 likewise.");
        e.bounds("alike", -2, (r, a) -> r.alike(a[0]), Edges.YEAR);
    }

    private void rising() {
        e.promise(22, "ENTRIES that RISE (III) in a YEAR, as bits.");
        e.row("rising", (r, a) -> r.rising(a[0]), sample, 1, 13, 15, 14, 0, 0, 0, -2);
        GallRegister x = register(1, ink(4, 5, 0) + ink(5, 5, 0) + ink(6, 5, 0) + "page;" + entry(0, 0, 1) + entry(0, 1, 1) + entry(0, 2, 1));
        e.row("1 below top, at it, beyond it", (r, a) -> r.rising(a[0]), x, 0, 1);
        e.is("all", register(20, ink(1, 60, 0) + "page;" + entry(0, 0, 0).repeat(7)).rising(20), 127);
        e.is("of no ENTRY", bare.rising(1), 0);
        e.promise(22, "-2 likewise.");
        e.bounds("rising", -2, (r, a) -> r.rising(a[0]), Edges.YEAR);
    }

    private void paling() {
        e.promise(23, "ENTRIES whose SHADE is less than in the YEAR ahead, as bits (of YEAR 0 none).");
        e.row("paling", (r, a) -> r.paling(a[0]), sample, 0, 0, 0, 0, 1, 15, 15, -2);
        e.row("like SHADE", (r, a) -> r.paling(a[0]), one(2, 9, 0, 0), 0, 0, 0);
        e.row("1 less", (r, a) -> r.paling(a[0]), one(2, 9, 1, 0), 0, 1, 1);
        e.row("to 0, and 0", (r, a) -> r.paling(a[0]), one(2, 9, 9, 0), 0, 1, 0);
        GallRegister x = one(2, 9, 0, 0);
        x.bleaches(0, 0);
        e.row("BLEACHED in YEAR 0", (r, a) -> r.paling(a[0]), x, 0, 0, 0);
        e.is("all", register(2, ink(9, 9, 1) + "page;" + entry(0, 0, 0).repeat(7)).paling(2), 127);
        e.promise(23, "-2 likewise.");
        e.bounds("paling", -2, (r, a) -> r.paling(a[0]), Edges.YEAR);
    }

    private void cross() {
        e.promise(24, "The first YEAR in which an ENTRY is darker than another one, both there.");
        e.is("in YEAR 0", register(1, ink(5, 5, 0) + ink(6, 6, 0) + "page;" + entry(0, 0, 0) + entry(0, 1, 0)).cross(1, 0), 0);
        e.is("as soon as both are there", of(5, 6).cross(1, 0), 1);
        e.is("the other one comes later", register(3, ink(5, 5, 0) + ink(1, 9, 0) + "page;" + entry(0, 0, 0) + entry(0, 1, 2)).cross(0, 1), 2);
        GallRegister late = register(5, ink(5, 5, 0) + ink(1, 9, 0) + "page;" + entry(0, 0, 0) + entry(0, 1, 0));
        e.is("in the last YEAR: 5 is like, 6 is darker", late.cross(1, 0), 5);
        e.promise(24, "NONE: in none;");
        e.is("like SHADES", of(5, 5).cross(0, 1), -1);
        e.is("paler", of(5, 6).cross(0, 1), -1);
        e.is("never there", register(1, ink(5, 5, 0) + "page;" + entry(0, 0, 0) + entry(0, 0, 2)).cross(0, 1), -1);
        e.is("one beyond the last YEAR", register(4, ink(5, 5, 0) + ink(1, 9, 0) + "page;" + entry(0, 0, 0) + entry(0, 1, 0)).cross(1, 0), -1);
        e.is("than itself", of(5).cross(0, 0), -1);
        e.promise(24, "-2: there are none such.");
        e.bounds("cross", -2, (r, a) -> r.cross(a[0], a[1]), Edges.ENTRY, Edges.ENTRY);
    }

    private void swaps() {
        e.promise(25, "In how many YEARS from 1 on, both there in it and in the one ahead, which of two is darker is otherwise than in the one ahead "
                + "(like SHADES are a third case).");
        // 5 5 5 5 5 and 4 6 5 5 3: > < = = >, by acts.
        GallRegister x = register(5, ink(5, 5, 0) + ink(4, 4, 0) + ink(6, 6, 0) + ink(3, 3, 0) + "page;" + entry(0, 0, 0) + entry(0, 1, 0));
        e.is("none", x.swaps(0, 1), 0);
        x.retraces(1, 2, 1);
        e.is("darker to paler", x.swaps(0, 1), 1);
        x.retraces(1, 0, 2);
        e.is("to like SHADES", x.swaps(0, 1), 2);
        e.is("the other way round", x.swaps(1, 0), 2);
        x.retraces(1, 3, 5);
        e.is("in the last YEAR", x.swaps(0, 1), 3);
        GallRegister first = register(2, ink(5, 5, 0) + ink(4, 6, 0) + "page;" + entry(0, 0, 0) + entry(0, 1, 1) + entry(0, 1, 2) + entry(0, 1, 0));
        e.is("there in the YEAR ahead", first.swaps(0, 1), 1);
        e.is("not there in the YEAR ahead", first.swaps(0, 2), 0);
        e.is("from YEAR 1 on", first.swaps(0, 3), 1);
        GallRegister comes = register(3, ink(5, 5, 0) + ink(6, 6, 0) + "page;" + entry(0, 0, 0) + entry(0, 1, 2) + entry(0, 0, 1) + entry(0, 1, 3));
        e.is("darker as it comes", comes.swaps(0, 1), 0);
        e.is("paler as the other comes", comes.swaps(1, 0), 0);
        e.is("like as it comes", comes.swaps(0, 2), 0);
        e.is("in the last YEAR alone", comes.swaps(0, 3), 0);
        e.is("never both there", register(1, ink(5, 5, 0) + "page;" + entry(0, 0, 0) + entry(0, 0, 2)).swaps(0, 1), 0);
        e.is("with itself", x.swaps(1, 1), 0);
        e.promise(25, "-2: there are none such.");
        e.bounds("swaps", -2, (r, a) -> r.swaps(a[0], a[1]), Edges.ENTRY, Edges.ENTRY);
    }

    private void put() {
        e.promise(26, "ENTRIES put in: those behind which (of more PLACE on their PAGE) stands one that was written in a YEAR ahead (as told), as bits.");
        String inks = ink(5, 5, 0) + "page;page;";
        e.is("1 YEAR ahead", register(1, inks + entry(0, 0, 1) + entry(0, 0, 0)).put(), 1);
        e.is("in the same YEAR", register(1, inks + entry(0, 0, 1) + entry(0, 0, 1)).put(), 0);
        e.is("of less PLACE", register(1, inks + entry(0, 0, 0) + entry(0, 0, 1)).put(), 0);
        e.is("on another PAGE", register(1, inks + entry(0, 0, 1) + entry(1, 0, 0)).put(), 0);
        e.is("not next behind it", register(1, inks + entry(0, 0, 1) + entry(0, 0, 2) + entry(0, 0, 0)).put(), 3);
        e.is("never there, as told", register(1, inks + entry(0, 0, 20) + entry(0, 0, 19)).put(), 1);
        e.is("all but the last", register(1, inks + entry(0, 0, 6) + entry(0, 0, 5) + entry(0, 0, 4) + entry(0, 0, 3) + entry(0, 0, 2)
                + entry(0, 0, 1) + entry(0, 0, 0)).put(), 63);
        e.is("sample", sample.put(), 2);
        e.is("full", full.put(), 8);
        e.is("of no ENTRY", bare.put(), 0);
        e.promise(26, "-2: there is no BOOK.");
        e.bounds("put", -2, (r, a) -> r.put());
    }

    private void lies() {
        e.promise(27, "FALSE ones: those that say another YEAR than that in which they were written, as bits.");
        e.is("sample", sample.lies(), 10);
        e.is("full", full.lies(), 70);
        GallRegister x = register(1, ink(5, 5, 0) + "page;" + "entry on 0 in 0 wrote 9 says 8;entry on 0 in 0 wrote 9 says 9;entry on 0 in 0 wrote 9 says 10;");
        e.is("1 less, like, 1 more", x.lies(), 5);
        e.is("rate", x.rate(0, 9), 8);
        e.is("no more", x.lies(), 4);
        e.is("of no ENTRY", bare.lies(), 0);
        e.promise(27, "-2 likewise.");
        e.bounds("lies", -2, (r, a) -> r.lies());
    }

    private void bold() {
        e.promise(41, "The ENTRY on a PAGE, there, that is darkest in a YEAR, the first of several.");
        e.row("bold(0, ..)", (r, a) -> r.bold(0, a[0]), sample, 0, 0, 0, 0, 3, 3, 3, -2);
        e.is("the first", of(4, 9, 9, 4).bold(0, 1), 1);
        GallRegister x = register(1, ink(1, 1, 1) + ink(9, 9, 0) + "page;page;" + entry(0, 0, 2) + entry(1, 1, 0) + entry(0, 0, 0));
        e.is("of SHADE 0, there, on the PAGE", x.bold(0, 1), 2);
        e.promise(41, "NONE: none is there;");
        e.is("not yet", of(9).bold(0, 0), -1);
        e.is("on another PAGE", of(9).bold(1, 1), -1);
        e.is("sample bold(1, 0)", sample.bold(1, 0), -1);
        e.is("sample bold(1, 1)", sample.bold(1, 1), 2);
        e.promise(41, "-2: there are none such.");
        e.bounds("bold", -2, (r, a) -> r.bold(a[0], a[1]), Edges.PAGE, Edges.YEAR);
    }

    private void sum() {
        e.promise(42, "SHADES of ENTRIES on a PAGE in a YEAR, together.");
        e.row("sum(0, ..)", (r, a) -> r.sum(0, a[0]), sample, 5, 15, 28, 41, 48, 44, 40, -2);
        e.row("sum(1, ..)", (r, a) -> r.sum(1, a[0]), sample, 0, 5, 10, 15, 20, 19, 18, -2);
        e.is("at most", register(2, ink(20, 60, 0) + "page;" + entry(0, 0, 0).repeat(7)).sum(0, 2), 420);
        e.is("none on it", of(9).sum(1, 1), 0);
        e.is("not there", of(9).sum(0, 0), 0);
        e.promise(42, "-2: there are none such.");
        e.bounds("sum", -2, (r, a) -> r.sum(a[0], a[1]), Edges.PAGE, Edges.YEAR);
    }

    private void spread() {
        e.promise(43, "SHADE of the darkest less that of the palest in a YEAR (0, if none is there).");
        e.row("spread", (r, a) -> r.spread(a[0]), sample, 0, 5, 12, 14, 11, 12, 13, -2);
        e.is("none is there", of(9, 4).spread(0), 0);
        e.is("of no ENTRY", bare.spread(1), 0);
        e.is("of one", of(9).spread(1), 0);
        GallRegister x = register(2, ink(20, 60, 0) + ink(1, 1, 1) + "page;" + entry(0, 0, 0) + entry(0, 0, 3) + entry(0, 1, 2));
        e.row("not there is not the palest", (r, a) -> r.spread(a[0]), x, 0, 0, 59);
        e.promise(43, "-2: there is no such YEAR, no BOOK.");
        e.bounds("spread", -2, (r, a) -> r.spread(a[0]), Edges.YEAR);
    }

    private void uses() {
        e.promise(44, "ENTRIES that were written in an INK (as told), as bits.");
        e.row("sample", (r, a) -> r.uses(a[0]), sample, 13, 2, -2);
        e.row("full", (r, a) -> r.uses(a[0]), full, 65, 34, 4, 24, -2);
        GallRegister x = register(1, ink(5, 5, 0) + ink(5, 5, 0) + "page;" + entry(0, 0, 20));
        x.retraces(0, 1, 0);
        e.row("as told, never there", (r, a) -> r.uses(a[0]), x, 1, 0, -2);
        GallRegister there = Edges.register(Edges.SAMPLE);
        there.retraces(0, 1, 0);
        e.row("RETRACED, as told", (r, a) -> r.uses(a[0]), there, 13, 2);
        e.promise(44, "-2: there is none such.");
        e.bounds("uses", -2, (r, a) -> r.uses(a[0]), Edges.INK);
    }

    private void newest() {
        e.promise(45, "The ENTRY, there, that was written last in a YEAR, the first of several.");
        e.row("sample", (r, a) -> r.newest(a[0]), sample, 0, 2, 1, 1, 1, 1, 1, -2);
        e.is("full newest(19)", full.newest(19), 6);
        e.is("full newest(20)", full.newest(20), 2);
        e.is("full newest(18)", full.newest(18), 5);
        e.is("full newest(0)", full.newest(0), 0);
        e.promise(45, "NONE: none is there;");
        e.is("not yet", of(9).newest(0), -1);
        e.is("in the YEAR itself", of(9).newest(1), 0);
        e.is("of no ENTRY", bare.newest(1), -1);
        e.promise(45, "-2: there is no such YEAR, no BOOK.");
        e.bounds("newest", -2, (r, a) -> r.newest(a[0]), Edges.YEAR);
    }

    private void oldest() {
        e.promise(46, "That which was written first, likewise.");
        e.row("sample", (r, a) -> r.oldest(a[0]), sample, 0, 0, 0, 0, 0, 0, 0, -2);
        GallRegister x = register(3, ink(5, 5, 0) + "page;" + entry(0, 0, 3) + entry(0, 0, 2) + entry(0, 0, 1) + entry(0, 0, 1) + entry(0, 0, 4));
        e.row("the first of several", (r, a) -> r.oldest(a[0]), x, -1, 2, 2, 2, -2);
        GallRegister later = register(3, ink(5, 5, 0) + "page;" + entry(0, 0, 3) + entry(0, 0, 2));
        e.row("there", (r, a) -> r.oldest(a[0]), later, -1, -1, 1, 1, -2);
        e.is("of no ENTRY", bare.oldest(1), -1);
        e.bounds("oldest", -2, (r, a) -> r.oldest(a[0]), Edges.YEAR);
    }

    private void steady() {
        e.promise(47, "The most YEARS one behind the other in which an ENTRY is there and has one and the same SHADE.");
        e.row("sample", (r, a) -> r.steady(a[0]), sample, 1, 1, 1, 1, -2);
        e.row("full", (r, a) -> r.steady(a[0]), full, 21, 5, 1, 1, 1, 5, 2, -2);
        e.is("all from the second on", one(20, 9, 0, 1).steady(0), 20);
        e.is("in the last YEAR alone", one(20, 9, 0, 20).steady(0), 1);
        e.is("never there", one(19, 9, 0, 20).steady(0), 0);
        GallRegister x = one(5, 20, 0, 2);
        x.bleaches(0, 2);
        x.bleaches(0, 2);
        e.is("0, there, and not the 0 ahead of it", x.steady(0), 4);
        x.retraces(0, 0, 3);
        x.bleaches(0, 5);
        e.is("20 twice", x.steady(0), 2);
        e.promise(47, "-2: there is none such.");
        e.bounds("steady", -2, (r, a) -> r.steady(a[0]), Edges.ENTRY);
    }

    private void falls() {
        e.promise(48, "In how many YEARS from 1 on its SHADE is less than in the YEAR ahead.");
        e.row("sample", (r, a) -> r.falls(a[0]), sample, 3, 2, 2, 2, -2);
        e.row("full", (r, a) -> r.falls(a[0]), full, 0, 7, 0, 0, 0, 7, 0, -2);
        e.is("each YEAR", register(20, ink(20, 20, 1) + "page;" + entry(0, 0, 0)).falls(0), 20);
        e.is("to 0, and no more", one(20, 9, 9, 0).falls(0), 1);
        e.is("never", one(20, 9, 0, 0).falls(0), 0);
        GallRegister x = one(2, 9, 0, 0);
        x.bleaches(0, 0);
        e.is("not in YEAR 0", x.falls(0), 0);
        e.is("never there", one(2, 9, 9, 3).falls(0), 0);
        e.promise(48, "-2 likewise.");
        e.bounds("falls", -2, (r, a) -> r.falls(a[0]), Edges.ENTRY);
    }

    private void age() {
        e.promise(49, "How many YEARS ago it was written in a YEAR.");
        e.row("age(0, ..)", (r, a) -> r.age(0, a[0]), sample, 0, 1, 2, 3, 4, 5, 6, -2);
        e.is("most", full.age(0, 20), 20);
        e.promise(49, "NONE: it is not there;");
        e.row("age(1, ..)", (r, a) -> r.age(1, a[0]), sample, -1, -1, 0, 1, 2, 3, 4, -2);
        e.is("never there", one(3, 9, 0, 4).age(0, 3), -1);
        e.promise(49, "-2: there are none such.");
        e.bounds("age", -2, (r, a) -> r.age(a[0], a[1]), Edges.ENTRY, Edges.YEAR);
    }

    private void peaks() {
        e.promise(51, "The YEAR in which all() is most, the first of several.");
        e.is("sample", sample.peaks(), 4);
        e.is("in YEAR 0", one(3, 9, 1, 0).peaks(), 0);
        e.is("in the last YEAR", one(3, 9, 1, 3).peaks(), 3);
        e.is("the first of several", one(3, 9, 0, 1).peaks(), 1);
        e.is("0 in all", one(3, 9, 1, 4).peaks(), 0);
        e.is("of no ENTRY", bare.peaks(), 0);
        e.promise(51, "-2: there is no BOOK.");
        e.bounds("peaks", -2, (r, a) -> r.peaks());
    }

    private void lasts() {
        e.promise(52, "In how many YEARS SHADE of an ENTRY is 5 or more.");
        e.row("sample", (r, a) -> r.lasts(a[0]), sample, 7, 4, 6, 6, -2);
        e.row("full", (r, a) -> r.lasts(a[0]), full, 0, 16, 0, 0, 17, 15, 0, -2);
        e.is("5", one(20, 5, 0, 0).lasts(0), 21);
        e.is("4", one(20, 4, 0, 0).lasts(0), 0);
        e.is("6 5 4", one(2, 6, 1, 0).lasts(0), 2);
        e.is("never there", one(2, 6, 1, 3).lasts(0), 0);
        e.promise(52, "-2: there is none such.");
        e.bounds("lasts", -2, (r, a) -> r.lasts(a[0]), Edges.ENTRY);
    }

    private void order() {
        e.promise(53, "1, if on a PAGE none of more PLACE was written ahead of one of less, else 0.");
        e.row("sample", (r, a) -> r.order(a[0]), sample, 0, 1, -2);
        e.row("full", (r, a) -> r.order(a[0]), full, 1, 1, 1, 0, -2);
        String ahead = ink(5, 5, 0) + "page;page;";
        e.row("like YEARS", (r, a) -> r.order(a[0]), register(1, ahead + entry(0, 0, 1) + entry(0, 0, 1)), 1, 1);
        e.row("1 YEAR ahead", (r, a) -> r.order(a[0]), register(1, ahead + entry(1, 0, 0) + entry(0, 0, 1) + entry(0, 0, 0)), 0, 1);
        e.row("of others' PAGES", (r, a) -> r.order(a[0]), register(1, ahead + entry(0, 0, 1) + entry(1, 0, 0)), 1, 1);
        e.row("never there", (r, a) -> r.order(a[0]), register(1, ahead + entry(1, 0, 20) + entry(1, 0, 19)), 1, 0);
        e.row("not next behind it", (r, a) -> r.order(a[0]), register(1, ahead + entry(0, 0, 1) + entry(0, 0, 2) + entry(0, 0, 0)), 0, 1);
        e.promise(53, "-2 likewise.");
        e.bounds("order", -2, (r, a) -> r.order(a[0]), Edges.PAGE);
    }

    private void match() {
        e.promise(54, "In how many YEARS two ENTRIES, both there, have like SHADE.");
        e.is("sample match(2, 3)", sample.match(2, 3), 6);
        e.is("sample match(0, 1)", sample.match(0, 1), 0);
        e.is("all YEARS", register(20, ink(5, 5, 0) + "page;" + entry(0, 0, 0) + entry(0, 0, 0)).match(0, 1), 21);
        e.is("the last YEAR", register(20, ink(5, 5, 0) + "page;" + entry(0, 0, 0) + entry(0, 0, 20)).match(1, 0), 1);
        e.is("never both there", register(19, ink(5, 5, 0) + "page;" + entry(0, 0, 0) + entry(0, 0, 20)).match(0, 1), 0);
        e.is("off by 1", of(5, 6).match(0, 1), 0);
        e.is("0, and one not there yet", register(2, ink(1, 1, 1) + "page;" + entry(0, 0, 0) + entry(0, 0, 2)).match(0, 1), 0);
        e.is("with itself", of(5).match(0, 0), 2);
        e.promise(54, "-2: there are none such.");
        e.bounds("match", -2, (r, a) -> r.match(a[0], a[1]), Edges.ENTRY, Edges.ENTRY);
    }
}
