/** Promises 1 to 10, 73: the TAPE, the BOOK, its FAULTS, and what it tells. */
final class TextTest {
    private static final Due due = new Due("TextTest");

    private static final String BOOK = "book years 6 law 0 odds 5;"
            + "ink rise 5 top 20 fade 1;ink rise 3 top 9 fade 2;"
            + "page damp;page;"
            + "entry on 0 in 0 wrote 0 says 0;entry on 0 in 1 wrote 2 says 1;"
            + "entry on 1 in 0 wrote 1 says 1;entry on 0 in 0 wrote 1 says 3;";

    public static void main(String[] args) {
        newObject();
        feed();
        end();
        bookComesAndGoes();
        faultIsOfTheLatest();
        faultsOfTokens();
        faultsOfPlaces();
        faultsOfNumbers();
        faultsOfTooMany();
        goodTexts();
        told();
        placesAndFaces();
        count();
        due.close();
    }

    private static void newObject() {
        GallRegister x = new GallRegister();
        for (int what = 0; what < 10; what++) {
            due.is("new count(" + what + ")", x.count(what), 0);
        }
        due.is("new fault(0)", x.fault(0), 0);
        due.is("new fault(1)", x.fault(1), -1);
        due.is("new fault(2)", x.fault(2), -1);
        due.is("new ink", x.ink(0, 0), -2);
        due.is("new page", x.page(0), -2);
        due.is("new entry", x.entry(0, 0), -2);
        due.is("new on", x.on(0), -2);
        due.is("new faces", x.faces(0), -2);
        due.is("NONE", GallRegister.NONE, -1);
    }

    private static void feed() {
        GallRegister x = new GallRegister();
        due.is("feed", x.feed(0x626f6f6b, 0x20796561, 0x72732036, 0x206c6177, 0x2030206f), 20);
        due.is("feed", x.feed(0x64647320, 0x353b2020, 0x20202020, 0x20202020, 0x20202020), 40);
        due.is("bytes", x.count(8), 40);
        due.is("book of it", x.book(), 1);
        due.is("years", x.count(0), 6);
        due.is("odds", x.count(2), 5);
        for (int i = 1; i <= 35; i++) {
            due.is("feed " + i, x.feed(0, 0, 0, 0, 0), 20 * i);
        }
        due.is("feed above 700", x.feed(0, 0, 0, 0, 0), -1);
        due.is("none came", x.count(8), 700);
        due.is("end", x.end(681), 681);
        due.is("feed to 701", x.feed(0, 0, 0, 0, 0), -1);
        due.is("none came", x.count(8), 681);
        due.is("end", x.end(680), 680);
        due.is("feed to 700", x.feed(0, 0, 0, 0, 0), 700);
        highBytes();
    }

    /** The highest bit of a number is no sign of a byte. */
    private static void highBytes() {
        GallRegister x = new GallRegister();
        x.feed(0x20200aff, 0, 0, 0, 0);
        due.is("a byte of 255", x.book(), -4);
        due.is("its place", x.fault(1), 3);
        x.feed(0xff202020, 0, 0, 0, 0);
        due.is("a byte of 255 ahead", x.book(), -4);
        due.is("its place", x.fault(1), 0);
    }

    private static void end() {
        GallRegister x = new GallRegister();
        due.is("end of none", x.end(1), -1);
        due.is("end(0)", x.end(0), 0);
        x.feed(1, 2, 3, 4, 5);
        due.is("end(21)", x.end(21), -1);
        due.is("end(-1)", x.end(-1), -1);
        due.is("end(least)", x.end(Integer.MIN_VALUE), -1);
        due.is("stays", x.count(8), 20);
        due.is("end(20)", x.end(20), 20);
        due.is("end(7)", x.end(7), 7);
        due.is("bytes", x.count(8), 7);
        due.is("end(8)", x.end(8), -1);
        due.is("feed behind", x.feed(0, 0, 0, 0, 0), 27);
        due.is("end(0)", x.end(0), 0);
        due.is("bytes", x.count(8), 0);
    }

    private static void bookComesAndGoes() {
        GallRegister x = new GallRegister();
        due.is("book of nothing", x.book(), 0);
        due.is("book", Due.book(x, BOOK), 9);
        due.is("TAPE is empty", x.count(8), 0);
        x.bleaches(0, 1);
        due.is("an act", x.count(6), 1);
        due.is("a faulty one", Due.book(x, "book years 7 law 1 odds 2;ink rise"), -4);
        due.is("TAPE is empty", x.count(8), 0);
        due.is("years stay", x.count(0), 6);
        due.is("law stays", x.count(1), 0);
        due.is("inks stay", x.count(3), 2);
        due.is("acts stay", x.count(6), 1);
        due.is("lines stay", x.count(7), 9);
        due.is("shades stay", x.shade(0, 1), 0);
        due.is("another", Due.book(x, "book years 7 law 1 odds 2;page;"), 2);
        due.is("nothing is done", x.count(6), 0);
        due.is("years", x.count(0), 7);
        due.is("inks", x.count(3), 0);
        due.is("entries", x.count(5), 0);
        due.is("pages", x.count(4), 1);
        due.is("blanks alone", Due.book(x, " \n "), 0);
        due.is("no book then", x.there(0), -2);
        due.is("no page then", x.page(0), -2);
        for (int what = 0; what < 10; what++) {
            due.is("no book, count(" + what + ")", x.count(what), 0);
        }
    }

    private static void faultIsOfTheLatest() {
        GallRegister x = new GallRegister();
        Due.book(x, "book years 0 law 0 odds 0;");
        due.is("fault", x.fault(0), 2);
        due.is("place", x.fault(1), 11);
        due.is("other", x.fault(2), -1);
        due.is("other", x.fault(-1), -1);
        Due.feed(x, "ink");
        due.is("fault ahead of book()", x.fault(0), 2);
        x.book();
        due.is("fault", x.fault(0), 1);
        due.is("place", x.fault(1), 0);
        due.is("good", Due.book(x, "book years 1 law 0 odds 0;"), 1);
        due.is("no fault", x.fault(0), 0);
        due.is("no place", x.fault(1), -1);
    }

    private static void faulty(String text, int fault, int place) {
        GallRegister x = new GallRegister();
        due.is("book of " + text, Due.book(x, text), -4);
        due.is("fault of " + text, x.fault(0), fault);
        due.is("place in " + text, x.fault(1), place);
    }

    /** The fault stands at the mark | of a text. */
    private static void marked(String text, int fault) {
        faulty(text.replace("|", ""), fault, text.indexOf('|'));
    }

    private static void faultsOfTokens() {
        String[] none = {"-", "A", "Z", "\t", "\r", ".", ":", "\u0000", "`", "{", "/", "\u00e4", ","};
        for (String sign : none) {
            marked("|" + sign, 1);
            marked("book |" + sign + "years 6 law 0 odds 5;", 1);
            marked("book years |" + sign + "6 law 0 odds 5;", 1);
            marked("book years 6|" + sign + " law 0 odds 5;", 1);
            marked("book years 6 law 0 odds 5;\n|" + sign, 1);
        }
        marked("|booK years 6 law 0 odds 5;", 1);
        marked("|books years 6 law 0 odds 5;", 1);
        marked("|boo years 6 law 0 odds 5;", 1);
        marked("|bookz years 6 law 0 odds 5;", 1);
        marked("|abook years 6 law 0 odds 5;", 1);
        marked("book years 6 law 0 odds 5;page |dampz;", 1);
        marked("book |year 6 law 0 odds 5;", 1);
        marked("|bookyears 6 law 0 odds 5;", 1);
    }

    private static void faultsOfPlaces() {
        String head = "book years 6 law 0 odds 5;";
        String ahead = head + "ink rise 5 top 20 fade 1;page;";
        for (String first : new String[] {"ink rise 1 top 1 fade 0;", "page;", "entry on 0", "damp", "6", ";", "years"}) {
            marked(" |" + first, 1);
        }
        for (String word : new String[] {"book years 6 law 0 odds 5;", "7", ";", "damp;", "inks", "pages", "says", "x"}) {
            marked(head + "\n |" + word, 1);
        }
        marked("book years 6 law 0 odds |;", 1);
        marked("book years 6 law 0 |;", 1);
        marked("book years 6 |odds 0 law 0;", 1);
        marked("book |6;", 1);
        marked("book years |law 0 odds 0;", 1);
        marked("book years 6 law 0 odds 5 |ink rise 5 top 20 fade 1;", 1);
        marked("book years 6 law 0 odds 5 |5;", 1);
        marked(ahead + "page damp |damp;", 1);
        marked(ahead + "page |dry;", 1);
        marked(ahead + "page |0;", 1);
        marked(ahead + "ink |top 20 rise 5 fade 1;", 1);
        marked(ahead + "entry |in 0 on 0 wrote 0 says 0;", 1);
        marked(ahead + "entry on 0 |wrote 0 says 0;", 1);
        marked(ahead + "entry on 0 in 0 wrote 0 |; says 0;", 1);
        ends("book years 6 law 0 odds 5;");
        ends("ink rise 5 top 20 fade 1;");
        ends("page damp;");
        ends("entry on 0 in 0 wrote 0 says 0;");
        marked("book years 6 law 0 odds 5 \n |", 1);
        marked("book years 6 law 0 odds 5; page |", 1);
    }

    /** Wherever a LINE is cut short behind a token, the end is at fault. */
    private static void ends(String line) {
        String ahead = line.startsWith("book") ? "" : "book years 6 law 0 odds 5;ink rise 5 top 20 fade 1;page;";
        for (int at = 1; at < line.length(); at++) {
            boolean whole = line.charAt(at) == ' ' || line.charAt(at) == ';' || line.charAt(at - 1) == ' ';
            if (whole) {
                marked(ahead + line.substring(0, at) + "|", 1);
            }
        }
    }

    private static void faultsOfNumbers() {
        marked("book years |0 law 0 odds 5;", 2);
        marked("book years |21 law 0 odds 5;", 2);
        marked("book years 20 law |4 odds 5;", 2);
        marked("book years 20 law 3 odds |11;", 2);
        marked("book years |4294967297 law 3 odds 11;", 2);
        marked("book years |18446744073709551617 law 3 odds 11;", 2);
        marked("book years |99999999999999999999999999999999999999999999999 law", 2);
        marked("book years |0 law 9 -", 2);
        String head = "book years 6 law 0 odds 5;";
        marked(head + "ink rise |0 top 20 fade 1;", 2);
        marked(head + "ink rise |21 top 20 fade 1;", 2);
        marked(head + "ink rise 20 top |0 fade 1;", 2);
        marked(head + "ink rise 20 top |61 fade 1;", 2);
        marked(head + "ink rise 20 top 60 fade |10;", 2);
        String ahead = head + "ink rise 5 top 20 fade 1;ink rise 5 top 20 fade 1;page;";
        marked(ahead + "entry on |1 in 0 wrote 0 says 0;page;", 2);
        marked(ahead + "entry on 0 in |2 wrote 0 says 0;", 2);
        marked(ahead + "entry on 0 in 1 wrote |21 says 0;", 2);
        marked(ahead + "entry on 0 in 1 wrote 20 says |21;", 2);
        marked(head + "page;entry on 0 in |0 wrote 0 says 0;", 2);
        marked(head + "ink rise 5 top 20 fade 1;entry on |0 in 0 wrote 0 says 0;", 2);
        marked(ahead + "entry on 0 in 1 wrote 20 says |21 7", 2);
    }

    private static String times(int n, String line) {
        return line.repeat(n);
    }

    private static void faultsOfTooMany() {
        String head = "book years 6 law 0 odds 5;";
        String ink = "ink rise 5 top 20 fade 1;";
        String entry = "entry on 0 in 0 wrote 0 says 0;";
        marked(head + times(4, ink) + " |ink", 3);
        marked(head + times(4, ink) + "|ink rise 0", 3);
        marked(head + times(4, "page;") + "|page -", 3);
        marked(head + times(4, "page damp;") + "|page damp;", 3);
        marked(head + ink + "page;" + times(7, entry) + "|entry on 9", 3);
        marked(head + times(4, ink) + " |inks", 1);
        due.is("all at most", Due.told(head + times(4, ink) + times(4, "page;") + times(7, entry)).count(7), 16);
    }

    private static void good(String text, int lines) {
        GallRegister x = new GallRegister();
        due.is("book of " + text, Due.book(x, text), lines);
        due.is("fault of " + text, x.fault(0), 0);
        due.is("place in " + text, x.fault(1), -1);
    }

    private static void goodTexts() {
        good("", 0);
        good("  \n\n ", 0);
        good("book years 1 law 0 odds 0;", 1);
        good("book years 20 law 3 odds 10 ;", 1);
        good("book years6law0odds5;", 1);
        good("book\nyears\n6\nlaw\n0\nodds\n5\n;\n", 1);
        good("book years 000000000000000000000000000000020 law 00 odds 010;", 1);
        good("book years 6 law 0 odds 5;page damp;page;pagedamp".replace("pagedamp", "page\ndamp") + ";", 4);
        good("book years 6 law 0 odds 5;ink rise 1 top 1 fade 0;ink rise 20 top 60 fade 9;page;"
                + "entry on 0 in 1 wrote 20 says 20;page;entry on 1 in 0 wrote 0 says 0;", 7);
    }

    private static void told() {
        GallRegister x = Due.told(BOOK);
        int[][] inks = {{5, 20, 1, -2}, {3, 9, 2, -2}, {-2, -2, -2, -2}};
        for (int i = 0; i < 3; i++) {
            for (int what = 0; what < 4; what++) {
                due.is("ink(" + i + ", " + what + ")", x.ink(i, what), inks[i][what]);
            }
        }
        due.is("ink(0, -1)", x.ink(0, -1), -2);
        due.is("ink(-1, 0)", x.ink(-1, 0), -2);
        due.is("page(0)", x.page(0), 1);
        due.is("page(1)", x.page(1), 0);
        due.is("page(2)", x.page(2), -2);
        due.is("page(-1)", x.page(-1), -2);
        int[][] entries = {{0, 0, 0, 0, 0}, {0, 1, 2, 1, 1}, {1, 0, 1, 1, 0}, {0, 0, 1, 3, 2}, {-2, -2, -2, -2, -2}};
        for (int i = 0; i < 5; i++) {
            for (int what = 0; what < 5; what++) {
                due.is("entry(" + i + ", " + what + ")", x.entry(i, what), entries[i][what]);
            }
        }
        due.is("entry(0, 5)", x.entry(0, 5), -2);
        due.is("entry(0, -1)", x.entry(0, -1), -2);
        due.is("entry(-1, 0)", x.entry(-1, 0), -2);
        due.is("on(0)", x.on(0), 11);
        due.is("on(1)", x.on(1), 4);
        due.is("on(2)", x.on(2), -2);
        due.is("on(-1)", x.on(-1), -2);
        GallRegister late = Due.told("book years 2 law 0 odds 0;ink rise 1 top 1 fade 0;page;page;"
                + "entry on 0 in 0 wrote 20 says 20;");
        due.is("wrote beyond years", late.entry(0, 2), 20);
        due.is("says beyond years", late.entry(0, 3), 20);
        due.is("an empty page", late.on(1), 0);
    }

    private static void placesAndFaces() {
        GallRegister x = Due.told("book years 2 law 0 odds 0;ink rise 1 top 1 fade 0;page;page;page;page;"
                + "entry on 3 in 0 wrote 0 says 0;entry on 0 in 0 wrote 20 says 0;entry on 2 in 0 wrote 0 says 0;"
                + "entry on 2 in 0 wrote 0 says 0;entry on 1 in 0 wrote 0 says 0;entry on 3 in 0 wrote 0 says 0;"
                + "entry on 3 in 0 wrote 0 says 0;");
        int[] places = {0, 0, 0, 1, 0, 1, 2};
        int[] faces = {2, 4, 0, 5, 1, 3, -1};
        for (int e = 0; e < 7; e++) {
            due.is("place of " + e, x.entry(e, 4), places[e]);
            due.is("faces(" + e + ")", x.faces(e), faces[e]);
        }
        due.is("faces(7)", x.faces(7), -2);
        due.is("faces(-1)", x.faces(-1), -2);
        GallRegister alone = Due.told("book years 2 law 0 odds 0;ink rise 1 top 1 fade 0;page;page;page;"
                + "entry on 2 in 0 wrote 0 says 0;entry on 1 in 0 wrote 0 says 0;");
        due.is("no page faces", alone.faces(0), -1);
        due.is("pages 1 and 2 do not face", alone.faces(1), -1);
    }

    private static void count() {
        GallRegister x = Due.told(BOOK.replace("law 0 odds 5", "law 3 odds 4"));
        x.feed(0, 0, 0, 0, 0);
        x.row(1, 0, 0);
        x.row(3, 2, 4);
        x.bleaches(0, 0);
        x.bleaches(0, 0);
        x.bleaches(0, 0);
        int[] want = {6, 3, 4, 2, 2, 4, 3, 9, 20, 2};
        for (int what = 0; what < 10; what++) {
            due.is("count(" + what + ")", x.count(what), want[what]);
        }
        due.is("count(10)", x.count(10), -1);
        due.is("count(-1)", x.count(-1), -1);
    }
}
