import java.io.IOException;
import java.nio.file.Files;
import java.nio.file.Path;
import java.util.ArrayList;
import java.util.Arrays;
import java.util.BitSet;
import java.util.LinkedHashMap;
import java.util.List;
import java.util.Map;

/**
 * Tests of edges, each under the words of the document that it is about: the words must stand there, and at the
 * end every word of "What it is", the Terms and the promises must have been named by a test.
 */
final class Edges {
    static final String BARE = "book years 1 law 0 odds 0;";
    static final String ONE = BARE + "ink rise 1 top 1 fade 0;page;entry on 0 in 0 wrote 0 says 0;";
    /** SHADES 5 10 15 20 19 18 17 | - - 3 6 9 7 5 | - 5 10 15 20 19 18, two such. */
    static final String SAMPLE = "book years 6 law 0 odds 5;"
            + "ink rise 5 top 20 fade 1;ink rise 3 top 9 fade 2;"
            + "page damp;page;"
            + "entry on 0 in 0 wrote 0 says 0;entry on 0 in 1 wrote 2 says 1;"
            + "entry on 1 in 0 wrote 1 says 1;entry on 0 in 0 wrote 1 says 3;";
    /** As many of all as there may be, numbers at their bounds. */
    static final String FULL = "book years 20 law 3 odds 10;"
            + "ink rise 1 top 1 fade 0;ink rise 20 top 60 fade 9;ink rise 20 top 1 fade 9;ink rise 1 top 60 fade 0;"
            + "page;page damp;page;page damp;"
            + "entry on 0 in 0 wrote 0 says 0;entry on 1 in 1 wrote 0 says 20;entry on 2 in 2 wrote 20 says 0;"
            + "entry on 3 in 3 wrote 20 says 20;entry on 3 in 3 wrote 0 says 0;entry on 0 in 1 wrote 1 says 1;"
            + "entry on 3 in 0 wrote 19 says 20;";
    /** null: a new object; none: one whose BOOK has gone. */
    static final String[] BOOKS = {null, "", BARE, ONE, SAMPLE, FULL};

    static final int LEAST = Integer.MIN_VALUE;
    static final int MOST = Integer.MAX_VALUE;

    interface Call {
        long of(GallRegister x, int[] a);
    }

    interface Ready {
        void make(GallRegister x);
    }

    /** The bounds of an argument by the BOOK that stands. */
    interface Span {
        int[] of(GallRegister x);
    }

    static final Span INK = x -> new int[] {0, x.count(3) - 1};
    static final Span PAGE = x -> new int[] {0, x.count(4) - 1};
    static final Span ENTRY = x -> new int[] {0, x.count(5) - 1};
    static final Span YEAR = x -> new int[] {0, x.count(0)};
    static final Span CHANCE_YEAR = x -> new int[] {1, Math.min(8, x.count(0))};
    static final Span SET = x -> new int[] {0, (1 << x.count(5)) - 1};
    static final Span PART = from(0, 1);
    static final Span SLOT = from(0, 3);

    static Span from(int least, int most) {
        return x -> new int[] {least, most};
    }

    private static final class Passage {
        final String text;
        final BitSet named = new BitSet();

        Passage(String text) {
            this.text = text;
        }
    }

    private final Due due = new Due("EdgesTest");
    private final Map<String, Passage> passages = new LinkedHashMap<>();
    private String at = "";

    Edges(String doc) throws IOException {
        String text = Files.readString(Path.of(doc)).replace("```text", " ").replace("```", " ");
        String whole = text.substring(text.indexOf("\n## What it is") + 14, text.indexOf("\n## The public face"));
        passages.put("What it is", new Passage(plain(whole)));
        String terms = text.substring(text.indexOf("\n## Terms") + 9, text.indexOf("\n## Promise 1:"));
        for (String term : terms.split("\n(?=[IV]+\\. )")) {
            if (!term.isBlank()) {
                int dot = term.indexOf('.');
                passages.put("Term " + term.substring(0, dot).strip(), new Passage(plain(term.substring(dot + 1))));
            }
        }
        String rest = text.substring(text.indexOf("\n## Promise 1:"), text.indexOf("\n## Not promised"));
        for (String promise : rest.split("\n## ")) {
            if (!promise.isBlank()) {
                String name = promise.substring(0, promise.indexOf(':')).strip();
                String body = promise.substring(promise.indexOf('`'));
                passages.put(name, new Passage(plain(body.substring(body.indexOf("`: ") + 3))));
            }
        }
        due.is("What it is, Terms and promises", passages.size(), 1 + 8 + 78);
    }

    private static String plain(String text) {
        return text.strip().replaceAll("\\s+", " ");
    }

    void whole(String words) {
        name("What it is", words);
    }

    void term(String numeral, String words) {
        name("Term " + numeral, words);
    }

    void promise(int n, String words) {
        name("Promise " + n, words);
    }

    private void name(String where, String words) {
        at = where + ", \"" + words + "\": ";
        Passage passage = passages.get(where);
        int from = passage == null ? -1 : passage.text.indexOf(words);
        due.holds(at + "stands in the document", from >= 0);
        if (from >= 0) {
            passage.named.set(from, from + words.length());
        }
    }

    void is(String call, long got, long want) {
        due.is(at + call, got, want);
    }

    void holds(String what, boolean held) {
        due.holds(at + what, held);
    }

    /** Answers one behind the other, of a first argument, from 0 on. */
    void row(String call, Call of, GallRegister x, long... want) {
        for (int i = 0; i < want.length; i++) {
            is(call + "(" + i + ")", of.of(x, new int[] {i}), want[i]);
        }
    }

    /** SHADES of an ENTRY, YEAR by YEAR. */
    void shades(String name, GallRegister x, int entry, int... want) {
        for (int year = 0; year < want.length; year++) {
            is(name + " shade(" + entry + ", " + year + ")", x.shade(entry, year), want[year]);
        }
    }

    void faulty(String text, int fault, int place) {
        GallRegister x = new GallRegister();
        is("book of " + text, Due.book(x, text), -4);
        is("fault of " + text, x.fault(0), fault);
        is("place in " + text, x.fault(1), place);
    }

    /** The FAULT stands at the (first) mark | of a text. */
    void marked(String text, int fault) {
        int mark = text.indexOf('|');
        faulty(text.substring(0, mark) + text.substring(mark + 1), fault, mark);
    }

    GallRegister good(String text, int lines) {
        GallRegister x = new GallRegister();
        is("book of " + text, Due.book(x, text), lines);
        is("fault of " + text, x.fault(0), 0);
        is("place in " + text, x.fault(1), -1);
        return x;
    }

    static GallRegister register(String book) {
        GallRegister x = new GallRegister();
        if (book != null) {
            if (book.isEmpty()) {
                Due.book(x, FULL);
            }
            Due.book(x, book);
        }
        return x;
    }

    void bounds(String name, long refusal, Call call, Span... spans) {
        bounds(name, refusal, x -> { }, call, spans);
    }

    /**
     * Of a call that needs a BOOK: on one without it is refused whatever is asked; on one with a BOOK it is not at
     * each corner of its bounds, and is one beyond (and far beyond) each of them. What is refused changes nothing.
     */
    void bounds(String name, long refusal, Ready ready, Call call, Span... spans) {
        for (String book : BOOKS) {
            for (int[] a : corners(book, spans, true)) {
                one(name + " inside", book, ready, call, a, refusal, book == null || book.isEmpty());
            }
            for (int[] a : beyond(book, spans)) {
                one(name + " beyond", book, ready, call, a, refusal, true);
            }
        }
    }

    private void one(String name, String book, Ready ready, Call call, int[] a, long refusal, boolean refused) {
        GallRegister x = register(book);
        ready.make(x);
        List<Long> before = state(x);
        long got = call.of(x, a);
        String of = name + Arrays.toString(a) + " of " + book;
        if (refused) {
            is(of, got, refusal);
            holds(of + " changes nothing", state(x).equals(before));
        } else {
            holds(of + " answers " + got, got != refusal);
        }
    }

    /** What can be seen of the BOOK as it stands, by some 100 calls. */
    static List<Long> state(GallRegister x) {
        List<Long> seen = new ArrayList<>();
        for (int what = 0; what < 10; what++) {
            seen.add((long) x.count(what));
        }
        int years = (int) (long) seen.get(0);
        int pages = (int) (long) seen.get(4);
        int entries = (int) (long) seen.get(5);
        for (int page = 0; page < pages; page++) {
            seen.add((long) x.page(page));
        }
        for (int entry = 0; entry < entries; entry++) {
            for (int what = 0; what < 4; what++) {
                seen.add((long) x.entry(entry, what));
            }
            seen.add((long) x.shade(entry, years));
        }
        for (int year = 0; year <= years; year++) {
            seen.add((long) x.all(year));
            seen.add((long) x.rising(year));
        }
        return seen;
    }

    /** All choices of least and most; of a span that has none, 0 (and there are no such corners, if inside is asked). */
    private static List<int[]> corners(String book, Span[] spans, boolean inside) {
        GallRegister x = register(book);
        List<int[]> list = new ArrayList<>();
        for (int choice = 0; choice < 1 << spans.length; choice++) {
            int[] a = new int[spans.length];
            boolean empty = false;
            for (int i = 0; i < a.length; i++) {
                int[] bounds = spans[i].of(x);
                empty |= bounds[0] > bounds[1];
                a[i] = bounds[0] > bounds[1] ? 0 : bounds[choice >> i & 1];
            }
            if (!empty || !inside) {
                list.add(a);
            }
        }
        return list;
    }

    private static List<int[]> beyond(String book, Span[] spans) {
        GallRegister x = register(book);
        List<int[]> list = new ArrayList<>();
        for (int[] corner : corners(book, spans, false)) {
            for (int i = 0; i < spans.length; i++) {
                int[] bounds = spans[i].of(x);
                for (int value : new int[] {bounds[0] - 1, bounds[1] + 1, LEAST, MOST}) {
                    int[] a = corner.clone();
                    a[i] = value;
                    list.add(a);
                }
            }
        }
        return list;
    }

    /** Every word must have been named, and all must have answered as due. */
    void close() {
        at = "";
        for (Map.Entry<String, Passage> entry : passages.entrySet()) {
            Passage passage = entry.getValue();
            StringBuilder left = new StringBuilder();
            for (int i = 0; i < passage.text.length(); i++) {
                if (!passage.named.get(i)) {
                    left.append(passage.text.charAt(i));
                }
            }
            boolean bare = left.chars().noneMatch(Character::isLetterOrDigit);
            due.holds(entry.getKey() + " has words without a test: " + left, bare);
        }
        due.close();
    }
}
