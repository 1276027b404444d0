import java.nio.charset.StandardCharsets;
import java.util.Arrays;

/** Keeps count of answers that are not as due, and tells texts to registers. */
final class Due {
    private final String test;
    private int asked = 0;
    private int wrong = 0;

    Due(String test) {
        this.test = test;
    }

    void is(String call, long got, long want) {
        asked++;
        if (got != want) {
            wrong++;
            if (wrong <= 50) {
                System.out.println(test + ": " + call + " answered " + got + ", due is " + want);
            }
        }
    }

    void holds(String what, boolean held) {
        is(what, held ? 1 : 0, 1);
    }

    /** The last thing that a test does. */
    void close() {
        System.out.println(test + ": " + asked + " answers, " + wrong + " wrong");
        if (wrong != 0 || asked == 0) {
            System.exit(1);
        }
    }

    /** Puts a text on the TAPE, which must be empty. */
    static int feed(GallRegister x, String text) {
        byte[] bytes = text.getBytes(StandardCharsets.ISO_8859_1);
        byte[] full = Arrays.copyOf(bytes, (bytes.length + 19) / 20 * 20);
        for (int i = 0; i < full.length; i += 20) {
            x.feed(four(full, i), four(full, i + 4), four(full, i + 8), four(full, i + 12), four(full, i + 16));
        }
        return x.end(bytes.length);
    }

    /** How many calls feed() makes of a text. */
    static int feeds(String text) {
        return (text.length() + 19) / 20 + 1;
    }

    private static int four(byte[] bytes, int i) {
        return (bytes[i] & 255) << 24 | (bytes[i + 1] & 255) << 16 | (bytes[i + 2] & 255) << 8 | (bytes[i + 3] & 255);
    }

    /** What book() answers to a text. */
    static int book(GallRegister x, String text) {
        feed(x, text);
        return x.book();
    }

    /** A new register with a BOOK that must be good. */
    static GallRegister told(String text) {
        GallRegister x = new GallRegister();
        int lines = book(x, text);
        if (lines < 1) {
            throw new IllegalStateException("no book: " + text + " fault " + x.fault(0) + " at " + x.fault(1));
        }
        return x;
    }

    /** A SLOT's row of WIDTH 1. */
    static void seen(GallRegister x, int slot, int... numbers) {
        x.row(slot, 1, numbers.length);
        for (int i = 0; i < numbers.length; i++) {
            x.write(slot, i, numbers[i]);
        }
    }
}
