import java.util.ArrayList;
import java.util.List;
import java.util.Random;
import java.util.regex.Matcher;
import java.util.regex.Pattern;

/** Many broken texts: FAULTS and their places against a reading by patterns. */
final class ReaderTest {
    private static final Due due = new Due("ReaderTest");
    private static final Pattern TOKEN = Pattern.compile("[a-z]+|[0-9]+|;|[^ \\n]", Pattern.DOTALL);

    private static final String[] GOOD = {
        "book years 6 law 0 odds 5;ink rise 5 top 20 fade 1;ink rise 3 top 9 fade 2;page damp;page;"
            + "entry on 0 in 0 wrote 0 says 0;entry on 0 in 1 wrote 2 says 1;entry on 1 in 0 wrote 1 says 20;",
        "book years 20 law 3 odds 10;page;page;page;page damp;ink rise 20 top 60 fade 9;ink rise 1 top 1 fade 0;"
            + "ink rise 9 top 9 fade 9;ink rise 2 top 2 fade 2;" + "entry on 3 in 3 wrote 20 says 20;".repeat(7),
        "book years 1 law 2 odds 0;\nink rise 5 top 20 fade 1;\npage;\nentry on 0 in 0 wrote 0 says 0;\n",
        "book years 10 law 1 odds 1;", ""};

    private static final String[] BITS = {"book ", "ink ", "page ", "damp ", "entry ", "on ", "in ", "wrote ", "says ", "rise ",
        "top ", "fade ", "years ", "law ", "odds ", ";", "0 ", "1", "21 ", "61 ", " 4", " 11 ", "99999999999 ", " ", "\n", "-",
        "A", "\t", "\u00ff", "x", "page;", "ink rise 1 top 1 fade 1;", "entry on 0 in 0 wrote 0 says 0;", "book years 1 law 0 odds 0;"};

    public static void main(String[] args) {
        Random random = new Random(7);
        for (int i = 0; i < 30000; i++) {
            check(broken(random, GOOD[random.nextInt(GOOD.length)], random.nextInt(3)));
        }
        due.close();
    }

    private static String broken(Random random, String text, int times) {
        String s = text;
        for (int i = 0; i < times; i++) {
            int at = random.nextInt(s.length() + 1);
            int to = Math.min(s.length(), at + random.nextInt(4));
            String bit = BITS[random.nextInt(BITS.length)];
            switch (random.nextInt(5)) {
                case 0: s = s.substring(0, at) + s.substring(to); break;
                case 1: s = s.substring(0, at) + bit + s.substring(at); break;
                case 2: s = s.substring(0, at) + bit + s.substring(to); break;
                case 3: s = s.substring(0, at); break;
                default: s = s.replaceFirst("\\b" + random.nextInt(21) + "\\b", String.valueOf(random.nextInt(70)));
            }
        }
        return s.length() > 700 ? s.substring(0, 700) : s;
    }

    private static void check(String text) {
        int[] want = reading(text);
        GallRegister x = new GallRegister();
        int lines = Due.book(x, text);
        due.is("book of " + text, lines, want[0] == 0 ? want[2] : -4);
        due.is("fault of " + text, x.fault(0), want[0]);
        due.is("place in " + text, x.fault(1), want[1]);
    }

    /** FAULT, its place, LINES. */
    private static int[] reading(String text) {
        Matcher tokens = TOKEN.matcher(text);
        List<String> due = new ArrayList<>();
        int[] told = new int[4];
        while (tokens.find()) {
            String token = tokens.group();
            if (due.isEmpty()) {
                int kind = List.of("book", "ink", "page", "entry").indexOf(token);
                if (kind < 0 || (kind == 0) != (told[0] == 0)) {
                    return new int[] {1, tokens.start(), 0};
                }
                if (told[kind] == new int[] {1, 4, 4, 7}[kind]) {
                    return new int[] {3, tokens.start(), 0};
                }
                told[kind]++;
                due.addAll(List.of(line(kind, told).split(" ")));
            } else {
                String as = due.remove(0);
                if (as.equals("[damp]")) {
                    as = due.remove(0);
                    if (token.equals("damp")) {
                        due.add(0, as);
                        continue;
                    }
                }
                if (as.startsWith("#") ? !token.matches("[0-9]+") : !token.equals(as)) {
                    return new int[] {1, tokens.start(), 0};
                }
                if (as.startsWith("#") && !within(token, as.substring(1).split("[.]"))) {
                    return new int[] {2, tokens.start(), 0};
                }
            }
        }
        int lines = told[0] + told[1] + told[2] + told[3];
        return due.isEmpty() ? new int[] {0, -1, lines} : new int[] {1, text.length(), 0};
    }

    private static String line(int kind, int[] told) {
        switch (kind) {
            case 0: return "years #1.20 law #0.3 odds #0.10 ;";
            case 1: return "rise #1.20 top #1.60 fade #0.9 ;";
            case 2: return "[damp] ;";
            default: return "on #0." + (told[2] - 1) + " in #0." + (told[1] - 1) + " wrote #0.20 says #0.20 ;";
        }
    }

    private static boolean within(String token, String[] bounds) {
        var n = new java.math.BigInteger(token);
        return n.compareTo(new java.math.BigInteger(bounds[0])) >= 0 && n.compareTo(new java.math.BigInteger(bounds[1])) <= 0;
    }
}
