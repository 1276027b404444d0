/** The bounds that Terms III to VIII name: how SHADES come and go, what PASSES, what is SEEN, WORTH, the GAME, CHANCE. */
final class EdgesOfLaws {
    private final Edges e;

    EdgesOfLaws(Edges e) {
        this.e = e;
    }

    void run() {
        there();
        written();
        rising();
        risingOn();
        fading();
        damp();
        facing();
        oddYears();
        acts();
        retraced();
        bleached();
        inThatYear();
        passes();
        passesNotThere();
        seen();
        worth();
        order();
        turned();
        gets();
        rest();
        wet();
        fractions();
        draws();
    }

    private static GallRegister register(int years, int law, int odds, String lines) {
        return Due.told("book years " + years + " law " + law + " odds " + odds + ";" + lines);
    }

    private static String ink(int rise, int top, int fade) {
        return "ink rise " + rise + " top " + top + " fade " + fade + ";";
    }

    private static String entry(int page, int ink, int wrote, int says) {
        return "entry on " + page + " in " + ink + " wrote " + wrote + " says " + says + ";";
    }

    /** One ENTRY on a dry PAGE, written in 0. */
    private static GallRegister alone(int years, int law, int rise, int top, int fade) {
        return register(years, law, 5, ink(rise, top, fade) + "page;" + entry(0, 0, 0, 0));
    }

    private void there() {
        e.term("III", "An ENTRY is there from the YEAR in which it is written on.");
        GallRegister x = register(3, 0, 5, ink(5, 5, 0) + "page;" + entry(0, 0, 0, 0) + entry(0, 0, 3, 0) + entry(0, 0, 4, 0) + entry(0, 0, 20, 0));
        e.row("there", (r, a) -> r.there(a[0]), x, 1, 1, 1, 3, -2);
    }

    private void written() {
        e.term("III", "Then its SHADE is rise of its INK (top at most); ahead of it 0.");
        String lines = "page;" + entry(0, 0, 2, 0) + entry(0, 1, 2, 0) + entry(0, 2, 2, 0) + entry(0, 3, 2, 0);
        GallRegister x = register(2, 0, 5, ink(4, 5, 0) + ink(5, 5, 0) + ink(6, 5, 0) + ink(20, 1, 0) + lines);
        e.shades("below top", x, 0, 0, 0, 4);
        e.shades("at top", x, 1, 0, 0, 5);
        e.shades("above top", x, 2, 0, 0, 5);
        e.shades("far above top", x, 3, 0, 0, 1);
    }

    private void rising() {
        e.term("III", "It RISES, if that is below top.");
        String lines = "page;" + entry(0, 0, 0, 0) + entry(0, 1, 0, 0) + entry(0, 2, 0, 0);
        GallRegister x = register(1, 0, 5, ink(4, 5, 0) + ink(5, 5, 0) + ink(6, 5, 0) + lines);
        e.is("rising(0)", x.rising(0), 1);
        e.is("rising(1)", x.rising(1), 0);
    }

    private void risingOn() {
        e.term("III", "From each YEAR in which it is there to the next: if it RISES, SHADE is rise more, top at most, and it RISES no more, "
                + "if that is top;");
        GallRegister x = register(4, 0, 5, ink(4, 12, 1) + ink(4, 13, 1) + ink(4, 11, 1) + "page;"
                + entry(0, 0, 0, 0) + entry(0, 1, 0, 0) + entry(0, 2, 0, 0));
        e.shades("to top", x, 0, 4, 8, 12, 11, 10);
        e.shades("1 below top", x, 1, 4, 8, 12, 13, 12);
        e.shades("beyond top", x, 2, 4, 8, 11, 10, 9);
        e.row("rising", (r, a) -> r.rising(a[0]), x, 7, 7, 2, 0, 0);
    }

    private void fading() {
        e.term("III", "else SHADE is less by fade (0 at least), by LAW, 0: so.");
        e.shades("to 0", alone(3, 0, 9, 9, 9), 0, 9, 0, 0, 0);
        e.shades("to 1, and 0 at least", alone(3, 0, 10, 10, 9), 0, 10, 1, 0, 0);
        e.shades("0 at least", alone(3, 0, 8, 8, 9), 0, 8, 0, 0, 0);
        e.shades("fade 0", alone(3, 0, 8, 8, 0), 0, 8, 8, 8, 8);
        GallRegister x = register(3, 0, 5, ink(20, 20, 9) + "page damp;" + entry(0, 0, 0, 0));
        e.shades("on a damp PAGE", x, 0, 20, 11, 2, 0);
    }

    private void damp() {
        e.term("III", "1: on a damp PAGE by fade twice.");
        String inks = ink(18, 18, 9) + ink(19, 19, 9) + ink(17, 17, 9) + ink(20, 20, 0);
        GallRegister x = register(2, 1, 5, inks + "page damp;page;" + entry(0, 0, 0, 0) + entry(0, 1, 0, 0) + entry(0, 2, 0, 0)
                + entry(0, 3, 0, 0) + entry(1, 0, 0, 0));
        e.shades("to 0", x, 0, 18, 0, 0);
        e.shades("to 1", x, 1, 19, 1, 0);
        e.shades("0 at least", x, 2, 17, 0, 0);
        e.shades("twice 0", x, 3, 20, 20, 20);
        e.shades("on a dry PAGE", x, 4, 18, 9, 0);
    }

    /** Of PAGES 0 and 1 by LAW 2; the ENTRY on PAGE 1 is asked. */
    private static GallRegister faced(int years, String dark, int darkWrote, String pale, int paleWrote) {
        return register(years, 2, 5, dark + pale + "page;page;" + entry(0, 0, darkWrote, 0) + entry(1, 1, paleWrote, 0));
    }

    private void facing() {
        e.term("III", "2: so; then each that is there, RISING or not, and whose FACING one is there, too, with a SHADE (in the YEAR ahead, of both) "
                + "more than its own by 10 or more, has 1 more (60 at most).");
        e.shades("by 10, then by 9", faced(3, ink(20, 20, 0), 0, ink(10, 10, 0), 0), 1, 10, 11, 11, 11);
        e.shades("by 9", faced(3, ink(20, 20, 0), 0, ink(11, 11, 0), 0), 1, 11, 11, 11, 11);
        e.shades("the dark one stays", faced(3, ink(20, 20, 0), 0, ink(10, 10, 0), 0), 0, 20, 20, 20, 20);
        e.shades("of the YEAR ahead, not of this", faced(3, ink(10, 20, 9), 0, ink(9, 9, 9), 0), 1, 9, 0, 1, 1);
        GallRegister rising = faced(4, ink(20, 20, 0), 0, ink(1, 3, 0), 0);
        e.shades("RISING", rising, 1, 1, 3, 4, 5, 6);
        e.row("it RISES till its own rise brings it to top", (r, a) -> r.rising(a[0]), rising, 2, 2, 0, 0, 0);
        e.shades("fading", faced(3, ink(20, 20, 0), 0, ink(5, 5, 2), 0), 1, 5, 4, 3, 2);
        e.shades("0 at least, then 1 more", faced(3, ink(20, 20, 0), 0, ink(1, 1, 9), 0), 1, 1, 1, 1, 1);
        e.shades("it is not there yet", faced(3, ink(20, 20, 0), 0, ink(1, 1, 0), 2), 1, 0, 0, 1, 2);
        e.shades("the FACING one is not there yet", faced(3, ink(20, 20, 0), 1, ink(1, 1, 0), 0), 1, 1, 1, 2, 3);
        e.shades("the FACING one is never there", faced(3, ink(20, 20, 0), 4, ink(1, 1, 0), 0), 1, 1, 1, 1, 1);
        // 20 40 60 60, and 20 from YEAR 1 on: 20, 40 and 1, then top and 1.
        e.shades("60 by 1 more", faced(3, ink(20, 60, 0), 0, ink(20, 59, 0), 1), 1, 0, 20, 41, 60);
        e.shades("60 at most", faced(3, ink(20, 60, 0), 0, ink(20, 60, 0), 1), 1, 0, 20, 41, 60);
        for (int law = 0; law < 4; law++) {
            String lines = ink(20, 20, 0) + ink(1, 1, 0) + "page;page;page;" + entry(0, 0, 0, 0) + entry(1, 1, 0, 0) + entry(2, 1, 0, 0);
            GallRegister x = register(2, law, 5, lines);
            e.shades("LAW " + law, x, 1, 1, law == 2 ? 2 : 1, law == 2 ? 3 : 1);
            e.shades("LAW " + law + ", none FACES it", x, 2, 1, 1, 1);
        }
        GallRegister paleFirst = register(3, 2, 5, ink(20, 20, 0) + ink(10, 10, 0) + "page;page;" + entry(0, 1, 0, 0) + entry(1, 0, 0, 0));
        e.shades("the pale one told first", paleFirst, 0, 10, 11, 11, 11);
        GallRegister others = register(2, 2, 5, ink(20, 20, 0) + ink(1, 1, 0) + "page;page;page;page;" + entry(3, 1, 0, 0) + entry(2, 1, 0, 0)
                + entry(0, 0, 0, 0) + entry(2, 0, 0, 0) + entry(3, 0, 0, 0) + entry(3, 1, 0, 0) + entry(2, 0, 0, 0));
        e.shades("of the third PLACE on PAGE 3", others, 5, 1, 2, 3);
        e.shades("of the first", others, 0, 1, 1, 1);
        GallRegister damp = register(2, 2, 5, ink(18, 18, 9) + "page damp;" + entry(0, 0, 0, 0));
        e.shades("so, on a damp PAGE", damp, 0, 18, 9, 0);
    }

    private void oddYears() {
        e.term("III", "3: in odd YEARS (to which it goes) it is not less.");
        e.shades("from 0 to 1 not", alone(5, 3, 9, 9, 2), 0, 9, 9, 7, 7, 5, 5);
        GallRegister x = register(4, 3, 5, ink(9, 9, 2) + ink(4, 9, 2) + "page damp;" + entry(0, 0, 1, 0) + entry(0, 1, 0, 0));
        e.shades("written in 1", x, 0, 0, 9, 7, 7, 5);
        e.shades("it RISES in odd YEARS, too", x, 1, 4, 8, 9, 9, 7);
    }

    private void acts() {
        e.term("III", "In each YEAR, behind that, acts of it are done in their order (on ENTRIES that are there, in the YEAR in which they are "
                + "written, too; else nothing is done by them):");
        GallRegister x = register(4, 0, 5, ink(15, 15, 2) + ink(4, 9, 0) + "page;" + entry(0, 0, 2, 0) + entry(0, 0, 5, 0));
        x.bleaches(0, 1);
        x.retraces(0, 1, 0);
        x.bleaches(1, 4);
        e.shades("in a YEAR ahead nothing is done", x, 0, 0, 0, 15, 13, 11);
        e.shades("nor on one that is never there", x, 1, 0, 0, 0, 0, 0);
        x.bleaches(0, 2);
        e.shades("in the YEAR in which it is written", x, 0, 0, 0, 5, 3, 1);
        x.anew();
        x.bleaches(0, 3);
        e.shades("behind its fading", x, 0, 0, 0, 15, 3, 1);
        x.retraces(0, 1, 3);
        e.shades("in their order", x, 0, 0, 0, 15, 4, 8);
        x.anew();
        x.retraces(0, 1, 3);
        x.bleaches(0, 3);
        e.shades("in the other order", x, 0, 0, 0, 15, 0, 0);
        x.bleaches(0, 2);
        x.retraces(0, 0, 4);
        e.shades("each in its YEAR", x, 0, 0, 0, 5, 0, 15);
        GallRegister facing = faced(2, ink(20, 20, 0), 0, ink(10, 10, 0), 0);
        facing.bleaches(1, 1);
        e.shades("behind what LAW 2 has more", facing, 1, 10, 1, 2);
    }

    private void retraced() {
        e.term("III", "RETRACED, it has SHADE of rise of that INK (top at most), that INK from then on, and RISES, if that is below top;");
        GallRegister x = register(4, 0, 5, ink(15, 15, 1) + ink(4, 5, 2) + ink(5, 5, 3) + ink(6, 5, 4) + "page;" + entry(0, 0, 0, 0));
        x.retraces(0, 1, 1);
        e.shades("below top", x, 0, 15, 4, 5, 3, 1);
        e.row("rising", (r, a) -> r.rising(a[0]), x, 0, 1, 0, 0, 0);
        x.retraces(0, 2, 2);
        e.shades("at top", x, 0, 15, 4, 5, 2, 0);
        x.retraces(0, 3, 3);
        e.shades("above top", x, 0, 15, 4, 5, 5, 1);
        e.row("rising", (r, a) -> r.rising(a[0]), x, 0, 1, 0, 0, 0);
        x.bleaches(0, 3);
        x.retraces(0, 1, 3);
        e.is("behind one that is BLEACHED", x.rising(3), 1);
        GallRegister risen = alone(3, 0, 5, 60, 0);
        GallRegister two = register(3, 0, 5, ink(5, 60, 0) + ink(9, 9, 2) + "page;" + entry(0, 0, 0, 0));
        e.is("it RISES", risen.rising(1), 1);
        two.retraces(0, 1, 1);
        e.shades("one that RISES, at top", two, 0, 5, 9, 7, 5);
        e.row("rising", (r, a) -> r.rising(a[0]), two, 1, 0, 0, 0);
    }

    private void bleached() {
        e.term("III", "BLEACHED, 10 less (0 at least), and it RISES no more.");
        int[][] want = {{9, 0}, {10, 0}, {11, 1}, {20, 10}};
        for (int[] w : want) {
            GallRegister x = alone(2, 0, w[0], w[0], 0);
            x.bleaches(0, 1);
            e.shades("of " + w[0], x, 0, w[0], w[1], w[1]);
        }
        GallRegister x = alone(3, 0, 6, 60, 1);
        x.bleaches(0, 1);
        e.shades("one that RISES", x, 0, 6, 2, 1, 0);
        e.row("rising", (r, a) -> r.rising(a[0]), x, 1, 0, 0, 0);
    }

    private void inThatYear() {
        e.term("III", "So it has SHADE in that YEAR.");
        GallRegister x = alone(2, 0, 20, 20, 0);
        e.is("in the last YEAR", x.bleaches(0, 2), 10);
        e.shades("in that YEAR, not ahead", x, 0, 20, 20, 10);
        e.is("clear, too", x.bleaches(0, 2), 0);
        e.is("clear(2)", x.clear(2), 0);
        e.is("paling(2)", x.paling(2), 1);
        e.is("all(2)", x.all(2), 0);
    }

    private void passes() {
        e.term("IV", "An ENTRY PASSES in a YEAR by an INK, if its SHADE is that which one on its PAGE would have then that was written in the YEAR "
                + "it says with that INK, without acts (LAW 2 as 0, here; not WET).");
        // One alone has 9 8 7, 9 7 5 or 10 9 8; the second ENTRY has - 10 9, and says 0, then 1.
        GallRegister x = register(2, 0, 5, ink(9, 9, 1) + ink(9, 9, 2) + ink(10, 10, 1) + "page;" + entry(0, 0, 0, 0) + entry(0, 2, 1, 0));
        e.row("as it says", (r, a) -> r.passes(0, a[0]), x, 3, 1, 1);
        e.row("off by 1", (r, a) -> r.passes(1, a[0]), x, 0, 0, 0);
        e.is("says 1", x.rate(1, 1), 0);
        e.row("as it says", (r, a) -> r.passes(1, a[0]), x, 7, 4, 4);
        String lines = ink(18, 18, 9) + "page damp;page;" + entry(0, 0, 0, 0) + entry(1, 0, 0, 0);
        for (int law = 0; law < 4; law++) {
            e.is("on its PAGE by LAW " + law, register(1, law, 10, lines).honest(1), 3);
        }
        GallRegister facing = register(1, 2, 10, ink(20, 20, 0) + ink(1, 1, 0) + ink(2, 2, 0) + "page;page;" + entry(0, 0, 0, 0) + entry(1, 1, 0, 0));
        e.is("LAW 2 as 0", facing.passes(1, 0), 2);
        e.is("LAW 2 as 0", facing.passes(1, 1), 4);
        GallRegister acted = alone(2, 0, 20, 20, 1);
        acted.bleaches(0, 1);
        e.row("without acts", (r, a) -> r.passes(0, a[0]), acted, 1, 0, 0);
        e.is("not WET", register(2, 0, 10, ink(9, 9, 0) + "page;" + entry(0, 0, 0, 0)).passes(0, 2), 1);
    }

    private void passesNotThere() {
        e.term("IV", "An ENTRY that is not there has 0, so has one in a YEAR ahead of that which it says.");
        GallRegister x = register(4, 0, 5, ink(2, 2, 2) + ink(9, 9, 0) + "page;" + entry(0, 0, 4, 1) + entry(0, 1, 0, 2) + entry(0, 0, 5, 5)
                + entry(0, 1, 4, 3));
        e.row("not there: 0, and 0 2 0 0, 0 9 9 9 9", (r, a) -> r.passes(0, a[0]), x, 3, 0, 1, 1, 0);
        e.row("there, ahead of what it says", (r, a) -> r.passes(1, a[0]), x, 0, 0, 2, 2, 2);
        e.row("neither", (r, a) -> r.passes(2, a[0]), x, 3, 3, 3, 3, 3);
        e.row("to the YEAR ahead", (r, a) -> r.passes(3, a[0]), x, 3, 3, 3, 0, 2);
    }

    private void seen() {
        e.term("V", "SEEN: a SLOT's row, three numbers each: an ENTRY, a YEAR, its SHADE (0 .. 60); one ENTRY was written in another YEAR (0 .. years), "
                + "or in another INK (kinds()), all else (acts, too) as now.");
        GallRegister x = register(3, 0, 5, ink(20, 60, 0) + ink(1, 1, 0) + "page;" + entry(0, 0, 0, 0) + entry(0, 1, 20, 0));
        Due.seen(x, 0, 0, 3, 60);
        e.is("SHADE 60", x.dates(0, 0), 2);
        Due.seen(x, 0, 0, 3, 61);
        e.is("SHADE 61", x.dates(0, 0), -2);
        Due.seen(x, 0, 0, 2, 0);
        e.is("SHADE 0", x.dates(0, 0), 1);
        e.is("written in the last YEAR", x.first(0, 0), 3);
        Due.seen(x, 0, 0, 2, -1);
        e.is("SHADE -1", x.dates(0, 0), -2);
        Due.seen(x, 0, 1, 0, 1);
        e.is("in YEAR 0, told beyond all", x.last(0, 1), 0);
        Due.seen(x, 0, 1, 3, 0);
        e.is("in no YEAR, as told", x.dates(0, 1), 0);
        e.is("in another INK, in its YEAR", x.kinds(0, 1), 3);
        x.bleaches(0, 3);
        Due.seen(x, 0, 0, 3, 50);
        e.is("acts, too", x.dates(0, 0), 2);
        Due.seen(x, 0, 0, 3, 50, 1, 3, 1);
        e.is("all else as now", x.dates(0, 0), 0);
    }

    private void worth() {
        e.term("VI", "A set of ENTRIES is WORTH as many unlike SHADES as its ENTRIES have in the last YEAR (those there).");
        GallRegister x = register(1, 0, 5, ink(1, 1, 1) + ink(5, 5, 0) + "page;" + entry(0, 0, 0, 0) + entry(0, 1, 0, 0) + entry(0, 1, 1, 0)
                + entry(0, 1, 2, 0));
        e.row("0, 5, 5, not there", (r, a) -> r.worth(a[0]), x, 0, 1, 1, 2, 1, 2, 1, 2, 0, 1, 1, 2, 1, 2, 1, 2, -2);
    }

    private void order() {
        e.term("VI", "ENTRIES come in an order, each has what the set is WORTH more by it; each order is as likely: the mean.");
        for (int n = 1; n <= 7; n++) {
            GallRegister x = register(1, 0, 5, ink(1, 1, 1) + "page;" + entry(0, 0, 0, 0).repeat(n));
            for (int i = 0; i < n; i++) {
                e.is("of " + n + " above", x.share(i, 0), 1);
                e.is("of " + n + " below", x.share(i, 1), n);
            }
        }
        GallRegister x = register(1, 0, 5, ink(1, 1, 1) + "page;" + entry(0, 0, 0, 0) + entry(0, 0, 1, 0) + entry(0, 0, 2, 0));
        e.is("0, there", x.share(0, 0) * 10 + x.share(0, 1), 11);
        e.is("not there above", x.share(2, 0), 0);
        e.is("not there below", x.share(2, 1), 1);
    }

    private void turned() {
        e.term("VII", "Each of two PAGES is turned (damp, if it is dry; dry, if it is damp), or not.");
        // By LAW 1: 18 is 9 on a dry PAGE, 0 on a damp one.
        GallRegister x = register(1, 1, 5, ink(18, 18, 9) + "page damp;page;" + entry(0, 0, 0, 0) + entry(1, 0, 0, 0));
        e.is("damp, not turned", x.gets(0, 1, 0, 0), 0);
        e.is("damp, turned", x.gets(0, 1, 1, 0), 2);
        e.is("dry, not turned", x.gets(1, 0, 0, 0), 3);
        e.is("dry, turned", x.gets(1, 0, 1, 0), -1);
        e.is("the PAGES stay", x.page(0) * 10 + x.page(1), 10);
        e.is("SHADES stay", x.shade(0, 1) * 10 + x.shade(1, 1), 9);
    }

    private void gets() {
        e.term("VII", "It GETS 3 for each ENTRY on it whose SHADE is 5 or more in the last YEAR, less 1, if it is turned.");
        GallRegister x = register(1, 0, 5, ink(5, 5, 0) + ink(4, 4, 0) + ink(6, 6, 1) + ink(5, 5, 1) + "page;page;page;" + entry(0, 0, 0, 0)
                + entry(0, 1, 0, 0) + entry(0, 2, 0, 0) + entry(0, 3, 0, 0) + entry(0, 0, 1, 0) + entry(0, 0, 2, 0) + entry(1, 0, 0, 0));
        e.is("5 4 5 4 5 and not there", x.gets(0, 1, 0, 0), 9);
        e.is("turned", x.gets(0, 1, 1, 0), 8);
        e.is("of the first alone", x.gets(1, 0, 0, 1), 3);
        e.is("none on it", x.gets(2, 0, 0, 1), 0);
        e.is("below 0, too", x.gets(2, 0, 1, 1), -1);
    }

    private void rest() {
        e.term("VII", "REST: neither GETS more by the other choice alone.");
        String pages = ink(18, 18, 9) + "page damp;page damp;page;page;";
        e.is("of no use to both", register(1, 0, 5, pages).rests(0, 1), 1);
        GallRegister x = register(1, 1, 5, pages + entry(0, 0, 0, 0) + entry(2, 0, 0, 0));
        e.is("of use to the first", x.rests(0, 1), 2);
        e.is("of use to the other one", x.rests(1, 0), 4);
        e.is("of none", x.rests(2, 3), 1);
        e.is("of use to both", register(1, 1, 5, pages + entry(0, 0, 0, 0) + entry(1, 0, 0, 0)).rests(0, 1), 8);
    }

    /** By odds 10, by which it is always WET: it has these SHADES, from YEAR 1 on. */
    private void wetShades(String name, GallRegister x, int entry, int... want) {
        for (int year = 1; year <= want.length; year++) {
            int shade = want[year - 1];
            e.is(name + " " + shade + " or more in " + year, x.chance(entry, year, shade, 0), 1);
            if (shade < 60) {
                e.is(name + " more than " + shade + " in " + year, x.chance(entry, year, shade + 1, 0), 0);
            }
        }
    }

    private static GallRegister wet(int law, int rise, int top, int fade, String page) {
        return register(8, law, 10, ink(rise, top, fade) + page + ";" + entry(0, 0, 0, 0));
    }

    private void wet() {
        e.term("VIII", "CHANCE: from each YEAR to the next it is WET with odds in ten, by itself: then each ENTRY whose SHADE is less by fade (also by 0; "
                + "by LAW 3 in odd YEARS it is not) is so by 2 more (0 at least; ahead of what LAW 2 has more).");
        for (int odds = 0; odds <= 10; odds++) {
            GallRegister x = register(2, 0, odds, ink(9, 9, 0) + "page;" + entry(0, 0, 0, 0));
            int dry = 10 - odds;
            part("9 by odds " + odds, x.chance(0, 2, 9, 0), x.chance(0, 2, 9, 1), dry * dry, 100);
            part("7 by odds " + odds, x.chance(0, 2, 7, 0), x.chance(0, 2, 7, 1), 100 - odds * odds, 100);
            part("5 by odds " + odds, x.chance(0, 2, 5, 0), x.chance(0, 2, 5, 1), 1, 1);
            part("6 in YEAR 1 by odds " + odds, x.chance(0, 1, 8, 0), x.chance(0, 1, 8, 1), dry, 10);
        }
        wetShades("also by 0", wet(0, 9, 9, 0, "page"), 0, 7, 5, 3, 1, 0, 0, 0, 0);
        wetShades("to 0", wet(0, 8, 8, 2, "page"), 0, 4, 0, 0, 0);
        wetShades("one that RISES", wet(0, 5, 12, 0, "page"), 0, 10, 12, 10, 8);
        wetShades("2, not 4, by LAW 1", wet(1, 20, 20, 3, "page damp"), 0, 12, 4, 0, 0);
        wetShades("dry by LAW 1", wet(1, 20, 20, 3, "page"), 0, 15, 10, 5, 0);
        wetShades("by LAW 3", wet(3, 20, 20, 3, "page"), 0, 20, 15, 15, 10, 10, 5, 5, 0);
        wetShades("by LAW 3, fade 0", wet(3, 5, 5, 0, "page"), 0, 5, 3, 3, 1, 1, 0, 0, 0);
        GallRegister facing = register(8, 2, 10, ink(20, 60, 0) + ink(1, 1, 0) + "page;page;" + entry(0, 0, 0, 0) + entry(1, 1, 0, 0));
        wetShades("0 at least, then 1 more", facing, 1, 1, 1, 1, 1, 1);
        GallRegister acts = wet(0, 20, 20, 0, "page");
        acts.bleaches(0, 1);
        wetShades("acts behind it", acts, 0, 8, 6, 4);
    }

    private void part(String name, long above, long below, long wantAbove, long wantBelow) {
        e.is(name + ", above / below", above * wantBelow, wantAbove * below);
        e.holds(name + " has " + below + " below 0 or less", below > 0);
    }

    private void fractions() {
        e.term("VIII", "FRACTIONS are told in lowest terms (0 / 1).");
        int[][] want = {{1, 1}, {9, 10}, {4, 5}, {7, 10}, {3, 5}, {1, 2}, {2, 5}, {3, 10}, {1, 5}, {1, 10}, {0, 1}};
        for (int odds = 0; odds <= 10; odds++) {
            GallRegister x = register(1, 0, odds, ink(9, 9, 0) + "page;" + entry(0, 0, 0, 0));
            e.is("odds " + odds + " above", x.chance(0, 1, 9, 0), want[odds][0]);
            e.is("odds " + odds + " below", x.chance(0, 1, 9, 1), want[odds][1]);
            e.is("never, above", x.chance(0, 1, 10, 0), 0);
            e.is("never, below", x.chance(0, 1, 10, 1), 1);
        }
        GallRegister x = register(8, 0, 1, ink(20, 20, 0) + "page;" + entry(0, 0, 0, 0) + entry(0, 0, 9, 0));
        e.is("8 dry YEARS, above", x.chance(0, 8, 20, 0), 43046721);
        e.is("8 dry YEARS, below", x.chance(0, 8, 20, 1), 100000000);
        e.is("sum of 0, above", register(8, 0, 5, "").mean(8, 0), 0);
        e.is("sum of 0, below", register(8, 0, 5, "").mean(8, 1), 1);
        e.is("not there, above", x.chance(1, 8, 1, 0), 0);
        e.is("not there, below", x.chance(1, 8, 1, 1), 1);
        e.is("not there, 0, above", x.chance(1, 8, 0, 0), 1);
        e.is("not there, 0, below", x.chance(1, 8, 0, 1), 1);
    }

    private void draws() {
        e.term("VIII", "DRAWS: x becomes (1103515245 x + 12345) modulo 2,147,483,648 (at first it is the seed); a draw: x / 65536, cut, modulo 10.");
        int[][] want = {{0, 8, 8, 7, 8, 7, 5, 1, 2, 0, 1, 2, 9, 8, 7, 5, 8, 3, 2, 1}, {8, 8, 3, 5, 1, 7, 0, 9, 2, 6, 9, 7, 4, 0, 5, 3, 9, 3, 7, 6},
            {3, 3, 6, 9, 1, 1, 9, 0, 5, 8, 9, 4, 0, 5, 3, 7, 6, 7, 4, 6}, {4, 3, 1, 7, 6, 2, 7, 7, 5, 4, 7, 0, 4, 8, 1, 3, 5, 7, 9, 1}};
        int[] seeds = {0, 1, 1999999999, 2000000000};
        drawn(seeds, want);
        e.term("VIII", "Years drawn: YEAR by YEAR ahead of the last a draw: below odds it is WET from it.");
        drawn(seeds, want);
        for (int years = 1; years <= 20; years++) {
            e.is("odds 10, years " + years, register(years, 0, 10, "").drawn(0, 0), (1 << years) - 1);
            e.is("odds 0, years " + years, register(years, 0, 0, "").drawn(0, 0), 0);
        }
    }

    private void drawn(int[] seeds, int[][] want) {
        for (int odds = 0; odds <= 10; odds++) {
            GallRegister x = register(20, 0, odds, "");
            for (int i = 0; i < seeds.length; i++) {
                int bits = 0;
                for (int year = 0; year < 20; year++) {
                    bits |= want[i][year] < odds ? 1 << year : 0;
                }
                e.is("drawn(" + seeds[i] + ", 0) by odds " + odds, x.drawn(seeds[i], 0), bits);
            }
        }
    }
}
