import java.util.Arrays;

/** The bounds that Terms I and II name: the text, its FAULTS, SLOTS, PLACES. */
final class EdgesOfTerms {
    private static final String HEAD = "book years 20 law 0 odds 5;";
    private static final String INK = "ink rise 5 top 20 fade 1;";
    private static final String ENTRY = "entry on 0 in 0 wrote 0 says 0;";
    private static final String AHEAD = HEAD + INK + "page;";

    private final Edges e;

    EdgesOfTerms(Edges e) {
        this.e = e;
    }

    void run() {
        lines();
        wordsOfLines();
        bookFirst();
        numbersOfBook();
        numbersOfInk();
        numbersOfEntry();
        howMany();
        years();
        blanks();
        tokens();
        firstFault();
        misplaced();
        outOfBounds();
        tooMany();
        slots();
        askedAhead();
        places();
        pagesFacing();
        entriesFacing();
    }

    private void lines() {
        e.term("I", "BOOK: {LINE ;}.");
        e.good("", 0);
        e.good("book years 1 law 0 odds 0;", 1);
        e.good(HEAD + INK.repeat(4) + "page;".repeat(4) + ENTRY.repeat(7), 16);
        e.marked("|;", 1);
        e.marked("book years 1 law 0 odds 0|", 1);
        e.marked("book years 1 law 0 odds 0;|;", 1);
        e.marked("book years 1 law 0 odds 0;page|", 1);
        e.marked("book years 1 law 0 odds 0 |page;", 1);
    }

    private void wordsOfLines() {
        e.term("I", "LINE: book years N law N odds N | ink rise N top N fade N | page [damp] | entry on P in K wrote N says N.");
        String[] lines = {"book years 6 law 0 odds 5", "ink rise 5 top 20 fade 1", "page damp", "entry on 0 in 0 wrote 0 says 0"};
        for (String line : lines) {
            String ahead = line.startsWith("book") ? "" : AHEAD;
            e.good(ahead + line + ";", ahead.isEmpty() ? 1 : 4);
            String[] tokens = line.split(" ");
            for (int i = 1; i < tokens.length; i++) {
                if (!line.equals("page damp")) {
                    e.marked(ahead + cut(tokens, i) + " |;", 1);
                }
                boolean isWord = i % 2 == 1;
                e.marked(ahead + cut(tokens, i) + (isWord ? " |" + tokens[i] : " " + tokens[i] + "|") + "x " + rest(tokens, i + 1) + ";", 1);
                e.marked(ahead + cut(tokens, i) + " |" + (isWord ? "7" : "on") + " " + rest(tokens, i + 1) + ";", 1);
            }
            for (int i = 0; i < tokens.length; i++) {
                changedWord(ahead, tokens, i);
            }
            e.marked(ahead + line + " |7;", 1);
            e.marked(ahead + line + " |damp;", 1);
            e.marked(ahead + line + "|", 1);
        }
    }

    /** Another letter anywhere in a word, one less and one more make another word of it. */
    private void changedWord(String ahead, String[] tokens, int i) {
        String word = tokens[i];
        for (int at = 0; at < word.length() && !Character.isDigit(word.charAt(0)); at++) {
            char other = word.charAt(at) == 'q' ? 'z' : 'q';
            String[] words = {word.substring(0, at) + other + word.substring(at + 1), word.substring(0, at) + word.substring(at + 1)};
            for (String changed : words) {
                String text = ahead + cut(tokens, i) + " |" + changed + " " + rest(tokens, i + 1) + ";";
                if (!changed.isEmpty()) {
                    e.marked(text, 1);
                }
            }
        }
    }

    private static String cut(String[] tokens, int n) {
        return String.join(" ", Arrays.copyOfRange(tokens, 0, n));
    }

    private static String rest(String[] tokens, int from) {
        return String.join(" ", Arrays.copyOfRange(tokens, from, tokens.length));
    }

    private void bookFirst() {
        e.term("I", "book is the first LINE and no other:");
        e.good(HEAD, 1);
        e.marked("|ink rise 5 top 20 fade 1;" + HEAD, 1);
        e.marked("|page;" + HEAD, 1);
        e.marked("|entry on 0 in 0 wrote 0 says 0;" + HEAD, 1);
        e.marked(HEAD + "|" + HEAD, 1);
        e.marked(AHEAD + ENTRY + "|" + HEAD, 1);
    }

    /** A number at its bounds is good, and one beyond them is FAULT 2 where it stands; a sign is no TOKEN. */
    private void number(String ahead, String behind, int least, int most, Edges.Call told) {
        for (int n : new int[] {least, most}) {
            for (String zeros : new String[] {"", "0", "00000000000000000000"}) {
                GallRegister x = Edges.register(ahead + zeros + n + behind);
                e.is("fault of " + ahead + zeros + n + behind, x.fault(0), 0);
                e.is("told by " + ahead + zeros + n + behind, told.of(x, new int[0]), n);
            }
        }
        if (least > 0) {
            e.marked(ahead + "|" + (least - 1) + behind, 2);
            e.marked(ahead + "|00" + behind, 2);
        }
        String[] beyond = {"" + (most + 1), "0" + (most + 1), "100", "999", "1000", "2147483648", "" + ((1L << 32) + most), "18446744073709551616",
            "18446744073709551617", "1" + "0".repeat(99)};
        for (String n : beyond) {
            e.marked(ahead + "|" + n + behind, 2);
        }
        e.marked(ahead + "|-1" + behind, 1);
        e.marked(ahead + least + "|.0" + behind, 1);
    }

    private void numbersOfBook() {
        e.term("I", "years 1 .. 20, law 0 .. 3, odds 0 .. 10.");
        number("book years ", " law 0 odds 0;", 1, 20, (x, a) -> x.count(0));
        number("book years 1 law ", " odds 0;", 0, 3, (x, a) -> x.count(1));
        number("book years 1 law 0 odds ", ";", 0, 10, (x, a) -> x.count(2));
    }

    private void numbersOfInk() {
        e.term("I", "ink: rise 1 .. 20, top 1 .. 60, fade 0 .. 9.");
        number(HEAD + "ink rise ", " top 20 fade 1;", 1, 20, (x, a) -> x.ink(0, 0));
        number(HEAD + "ink rise 5 top ", " fade 1;", 1, 60, (x, a) -> x.ink(0, 1));
        number(HEAD + "ink rise 5 top 20 fade ", ";", 0, 9, (x, a) -> x.ink(0, 2));
    }

    private void numbersOfEntry() {
        e.term("I", "entry: a PAGE, an INK told ahead, wrote, says 0 .. 20.");
        number(AHEAD + "entry on ", " in 0 wrote 0 says 0;page;", 0, 0, (x, a) -> x.entry(0, 0));
        number(AHEAD + "page;page;page;entry on ", " in 0 wrote 0 says 0;", 0, 3, (x, a) -> x.entry(0, 0));
        number(AHEAD + "entry on 0 in ", " wrote 0 says 0;ink rise 1 top 1 fade 0;", 0, 0, (x, a) -> x.entry(0, 1));
        number(AHEAD + INK + INK + INK + "entry on 0 in ", " wrote 0 says 0;", 0, 3, (x, a) -> x.entry(0, 1));
        number(AHEAD + "entry on 0 in 0 wrote ", " says 0;", 0, 20, (x, a) -> x.entry(0, 2));
        number(AHEAD + "entry on 0 in 0 wrote 0 says ", ";", 0, 20, (x, a) -> x.entry(0, 3));
        e.marked(HEAD + INK + "entry on |0 in 0 wrote 0 says 0;page;", 2);
        e.marked(HEAD + "page;entry on 0 in |0 wrote 0 says 0;" + INK, 2);
        // Years beyond those of the BOOK may be told.
        GallRegister x = e.good("book years 1 law 0 odds 0;" + INK + "page;entry on 0 in 0 wrote 20 says 20;", 4);
        e.is("wrote", x.entry(0, 2), 20);
    }

    private void howMany() {
        e.term("I", "INKS 0 .. 3, PAGES 0 .. 3, ENTRIES 0 .. 6 are numbered as they stand.");
        GallRegister x = Edges.register(HEAD + "ink rise 1 top 1 fade 0;page damp;ink rise 2 top 2 fade 0;page;ink rise 3 top 3 fade 0;page damp;"
                + "entry on 2 in 2 wrote 6 says 0;ink rise 4 top 4 fade 0;page;" + ENTRY.repeat(5) + "entry on 3 in 3 wrote 9 says 0;");
        e.row("ink", (r, a) -> r.ink(a[0], 0), x, 1, 2, 3, 4, -2);
        e.row("page", (r, a) -> r.page(a[0]), x, 1, 0, 1, 0, -2);
        e.row("wrote", (r, a) -> r.entry(a[0], 2), x, 6, 0, 0, 0, 0, 0, 9, -2);
        e.row("on", (r, a) -> r.entry(a[0], 0), x, 2, 0, 0, 0, 0, 0, 3, -2);
    }

    private void years() {
        e.term("I", "YEARS 0 .. years.");
        for (int years = 1; years <= 20; years++) {
            GallRegister x = Edges.register("book years " + years + " law 0 odds 0;" + INK + "page;" + ENTRY);
            e.is("years " + years + " there(-1)", x.there(-1), -2);
            e.is("years " + years + " there(0)", x.there(0), 1);
            e.is("years " + years + " there(years)", x.there(years), 1);
            e.is("years " + years + " there(years + 1)", x.there(years + 1), -2);
            e.is("years " + years + " shade(0, years)", x.shade(0, years) > 0 ? 1 : 0, 1);
            e.is("years " + years + " shade(0, years + 1)", x.shade(0, years + 1), -2);
        }
    }

    private void blanks() {
        e.term("I", "TOKENS, blanks (32, 10) aside, the longest:");
        for (int sign = 0; sign < 256; sign++) {
            boolean isBlank = sign == 32 || sign == 10;
            boolean isToken = sign >= 'a' && sign <= 'z' || sign >= '0' && sign <= '9' || sign == ';';
            char c = (char) sign;
            if (isBlank) {
                e.good(c + "book" + c + c + "years" + c + "6" + c + "law" + c + "0odds 5" + c + ";" + c, 1);
                e.faulty("book years 6 law 0 odds 5;page" + c, 1, 31);
            } else if (!isToken) {
                e.marked("|" + c + "book years 6 law 0 odds 5;", 1);
                e.marked("book years 6 law 0 odds 5;|" + c, 1);
                e.marked("book years 6|" + c + "law 0 odds 5;", 1);
            }
        }
        // The longest: what is no blank between parts of a word or a number parts nothing.
        e.marked("book |yearslaw 6 law 0 odds 5;", 1);
        e.marked("book years |66 law 0 odds 5;", 2);
        e.marked("book years 6 |6 law 0 odds 5;", 1);
        e.marked("|bo ok years 6 law 0 odds 5;", 1);
        e.good("book years6law0odds5;page;pagedamp;".replace("pagedamp", "page damp"), 3);
    }

    private void tokens() {
        e.term("I", "words (a .. z), numbers (digits), the sign ; .");
        for (char c = 'a'; c <= 'z'; c++) {
            // A letter makes the word a longer one: that is at fault where it begins.
            e.marked("book |years" + c + " 6 law 0 odds 5;", 1);
            e.marked("book |" + c + "years 6 law 0 odds 5;", 1);
        }
        for (char c = '0'; c <= '9'; c++) {
            GallRegister x = e.good("book years 1" + c + " law 0 odds 0;", 1);
            e.is("years 1" + c, x.count(0), 10 + c - '0');
        }
        for (char c : new char[] {'/', ':', '<', '`', '{', '@', '[', 'A', 'Z', '!', '\t', '\r'}) {
            e.marked("book years|" + c + " 6 law 0 odds 5;", 1);
            e.marked("book years 6|" + c + " law 0 odds 5;", 1);
            e.marked("book years 6 law 0 odds 5|" + c, 1);
        }
        e.good("book years 6 law 0 odds 5;page;page;", 3);
    }

    private void firstFault() {
        e.term("I", "FAULTS, the first by its place (a TOKEN's first byte; the end's), of one place the least:");
        e.marked("book years |21 law 4 odds 11;", 2);
        e.marked("book years 20 law |4 -;", 2);
        e.marked("book years |- 21;", 1);
        e.marked(HEAD + "page |21; page; page; page; page;", 1);
        // A number that can't stand there, out of all bounds, too: the least of one place is 1.
        e.marked("|99 years 6", 1);
        e.marked("book |99 years 6", 1);
        e.marked("book years 6 |99", 1);
        // A 5th ink, where none can stand, is 1, too; in its place it is 3, whatever comes behind.
        e.marked(HEAD + INK.repeat(4) + "page |ink rise 5 top 20 fade 1;", 1);
        e.marked(HEAD + INK.repeat(4) + "|ink rise 99 -", 3);
        e.marked(HEAD + "page;".repeat(3) + "page |page;", 1);
        e.marked(HEAD + INK + "page;" + ENTRY.repeat(7) + "page |entry", 1);
        // A TOKEN's first byte, behind its blanks; the end's: behind all blanks.
        e.marked(" \n |x", 1);
        e.marked("book \n\n |year 6", 1);
        e.marked("book years  |00000000000000000000000021 law 0 odds 0;", 2);
        e.marked("book years 6 law 0 odds 5|", 1);
        e.marked("book years 6 law 0 odds 5  \n|", 1);
        e.marked("book|", 1);
    }

    private void misplaced() {
        e.term("I", "1 a TOKEN that is none, or can't stand there (book behind the first LINE, another word ahead of it).");
        e.marked(HEAD + "|book years 6 law 0 odds 5;", 1);
        e.marked(HEAD + "page;|book", 1);
        for (String word : new String[] {"ink", "page", "entry", "damp", "rise", "x", "books", "boo"}) {
            e.marked("|" + word + " " + HEAD, 1);
            e.marked("|" + word, 1);
        }
        for (String word : new String[] {"inks", "in", "pag", "entri", "damp", "years", "z", "0", ";", "-"}) {
            e.marked(HEAD + "|" + word, 1);
        }
    }

    private void outOfBounds() {
        e.term("I", "2 a number out of its bounds, not as said.");
        e.marked("book years |0", 2);
        e.marked("book years |21", 2);
        e.marked(AHEAD + "entry on |1", 2);
        e.marked(AHEAD + "entry on 0 in |1", 2);
        e.marked(AHEAD + "page;entry on |2 in 0 wrote 0 says 0;page;", 2);
        e.marked(AHEAD + "page;page;page;" + INK.repeat(3) + "entry on |4", 2);
        e.marked(AHEAD + "page;page;page;" + INK.repeat(3) + "entry on 3 in |4", 2);
        // Of the 16th LINE, too, and all of what is behind it is not looked at.
        e.marked(HEAD + INK.repeat(4) + "page;".repeat(4) + ENTRY.repeat(6) + "entry on 0 in 0 wrote 0 says |21;" + ENTRY, 2);
    }

    private void tooMany() {
        e.term("I", "3 a 5th ink, a 5th page, an 8th entry, at its word.");
        for (int n = 0; n <= 4; n++) {
            e.good(HEAD + INK.repeat(n) + "page;".repeat(4 - n), 5);
        }
        e.marked(HEAD + INK.repeat(4) + "|ink rise 5 top 20 fade 1;", 3);
        e.marked(HEAD + "page;".repeat(4) + "|page;", 3);
        e.marked(HEAD + "page;".repeat(4) + "|page damp;", 3);
        e.good(AHEAD + ENTRY.repeat(7), 10);
        e.marked(AHEAD + ENTRY.repeat(7) + "|entry on 0 in 0 wrote 0 says 0;", 3);
        // Others may come behind the most of one kind.
        e.good(AHEAD + ENTRY.repeat(7) + "page;" + INK, 12);
        e.marked(AHEAD + ENTRY.repeat(7) + "page;" + INK + "|entry", 3);
        e.marked(HEAD + INK.repeat(4) + "page;".repeat(4) + "  |ink", 3);
        e.marked(HEAD + INK.repeat(4) + "page;".repeat(4) + "\n|page", 3);
    }

    private void slots() {
        e.term("I", "SLOTS 0 .. 3 have rows of numbers of 1, 2, 4 or 8 bytes (WIDTH 0 .. 3), at most 60, or nothing.");
        for (String book : Edges.BOOKS) {
            GallRegister x = Edges.register(book);
            e.is("nothing", x.count(9), 0);
            for (int slot = 0; slot < 4; slot++) {
                e.is("nothing in " + slot, x.write(slot, 0, 0), -6);
                e.is("row in " + slot, x.row(slot, slot, 60), 0);
                e.is("the 60th", x.write(slot, 59, 1), 0);
                e.is("the 61st", x.write(slot, 60, 1), -7);
                e.is("rows", x.count(9), slot + 1);
                e.is("61 numbers", x.row(slot, slot, 61), -2);
            }
            e.is("SLOT 4", x.row(4, 0, 0), -2);
            e.is("SLOT -1", x.row(-1, 0, 0), -2);
            e.is("WIDTH 4", x.row(0, 4, 0), -2);
            e.is("WIDTH -1", x.row(0, -1, 0), -2);
        }
        // 1, 2, 4, 8 bytes: the bit next above a WIDTH is cut away.
        for (int width = 0; width < 4; width++) {
            GallRegister x = Edges.register(Edges.ONE);
            x.row(0, width, 3);
            for (int bit = 0; bit < 64; bit++) {
                x.write(0, 2, 1 + (bit == 0 ? 0 : 1L << bit));
                boolean cut = bit == 0 || bit >= 8 << width;
                e.is("width " + width + " bit " + bit, x.laws(0), cut ? 15 : bit < 6 ? 0 : -2);
            }
        }
    }

    private void askedAhead() {
        e.term("I", "-2 (-1,000) is asked ahead of -5, -6.");
        GallRegister x = Edges.register(Edges.SAMPLE);
        for (int i = 0; i < 30; i++) {
            x.bleaches(1, 0);
        }
        e.is("-5", x.bleaches(3, 6), -5);
        e.is("-2 ahead of -5", x.bleaches(4, 6), -2);
        e.is("-2 ahead of -5", x.bleaches(3, 7), -2);
        e.is("-5", x.retraces(3, 1, 6), -5);
        e.is("-2 ahead of -5", x.retraces(4, 1, 6), -2);
        e.is("-2 ahead of -5", x.retraces(3, 2, 6), -2);
        e.is("-2 ahead of -5", x.retraces(3, 1, 7), -2);
        e.is("-5", x.rate(3, 20), -5);
        e.is("-2 ahead of -5", x.rate(3, 21), -2);
        e.is("-2 ahead of -5", x.rate(4, 20), -2);
        e.is("-6", x.dates(3, 3), -6);
        e.is("-2 ahead of -6", x.dates(3, 4), -2);
        e.is("-2 ahead of -6", x.dates(4, 3), -2);
        e.is("-6", x.write(3, 0, 0), -6);
        e.is("-2 ahead of -6", x.write(4, 0, 0), -2);
        e.is("-6", x.back(2), -6);
        e.is("-2 ahead of -6", x.back(3), -2);
        GallRegister none = Edges.register(null);
        e.is("-2 ahead of -5", none.undo(), -2);
        e.is("-2 ahead of -6", none.laws(0), -2);
        e.is("-1,000 is told below what it GETS, too", x.gets(0, 0, 1, 1), -1000);
    }

    private void places() {
        e.term("II", "PLACE of an ENTRY: how many stand ahead of it (told ahead) on its PAGE.");
        GallRegister x = Edges.register(AHEAD + "entry on 0 in 0 wrote 20 says 0;" + ENTRY.repeat(6));
        e.row("all on one", (r, a) -> r.entry(a[0], 4), x, 0, 1, 2, 3, 4, 5, 6, -2);
        GallRegister y = Edges.register(AHEAD + "page;page;page;entry on 3 in 0 wrote 0 says 0;" + ENTRY + "entry on 3 in 0 wrote 9 says 0;"
                + "entry on 1 in 0 wrote 0 says 0;" + ENTRY + "entry on 3 in 0 wrote 0 says 0;entry on 2 in 0 wrote 0 says 0;");
        e.row("each on its own", (r, a) -> r.entry(a[0], 4), y, 0, 0, 1, 0, 1, 2, 0, -2);
    }

    private static String on(int... pages) {
        StringBuilder s = new StringBuilder();
        for (int page : pages) {
            s.append("entry on ").append(page).append(" in 0 wrote 0 says 0;");
        }
        return s.toString();
    }

    private void pagesFacing() {
        e.term("II", "PAGES 0 and 1, 2 and 3 face one another;");
        String ahead = AHEAD + "page;page;page;";
        e.row("0 1 2 3", (r, a) -> r.faces(a[0]), Edges.register(ahead + on(0, 1, 2, 3)), 1, 0, 3, 2, -2);
        e.row("1 2", (r, a) -> r.faces(a[0]), Edges.register(ahead + on(1, 2)), -1, -1);
        e.row("0 3", (r, a) -> r.faces(a[0]), Edges.register(ahead + on(0, 3)), -1, -1);
        e.row("0 2", (r, a) -> r.faces(a[0]), Edges.register(ahead + on(0, 2)), -1, -1);
        // PAGE 2, and no 3.
        e.row("three", (r, a) -> r.faces(a[0]), Edges.register(AHEAD + "page;page;" + on(2, 0, 1)), -1, 2, 1, -2);
        e.row("one", (r, a) -> r.faces(a[0]), Edges.register(AHEAD + on(0)), -1, -2);
    }

    private void entriesFacing() {
        e.term("II", "an ENTRY FACES that of like PLACE on the PAGE that faces its own (if both are told; whether they are there yet or not).");
        String ahead = AHEAD + "page;page;page;";
        e.row("like PLACE", (r, a) -> r.faces(a[0]), Edges.register(ahead + on(0, 0, 0, 1, 1, 3, 2)), 3, 4, -1, 0, 1, 6, 5, -2);
        e.row("told later", (r, a) -> r.faces(a[0]), Edges.register(ahead + on(3, 3, 2)), 2, -1, 0, -2);
        e.row("not one on its own", (r, a) -> r.faces(a[0]), Edges.register(ahead + on(0, 0)), -1, -1, -2);
        GallRegister x = Edges.register("book years 1 law 0 odds 0;" + INK + "page;page;"
                + "entry on 0 in 0 wrote 20 says 0;entry on 1 in 0 wrote 2 says 0;");
        e.row("never there", (r, a) -> r.faces(a[0]), x, 1, 0, -2);
    }
}
