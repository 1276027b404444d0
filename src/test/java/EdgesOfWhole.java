import java.lang.reflect.InvocationTargetException;
import java.lang.reflect.Method;
import java.lang.reflect.Modifier;
import java.util.Arrays;
import java.util.Comparator;
import java.util.List;

/** "What it is": what the whole is about, and for how many calls. */
final class EdgesOfWhole {
    private final Edges e;

    EdgesOfWhole(Edges e) {
        this.e = e;
    }

    void run() throws IllegalAccessException {
        told();
        shades();
        passing();
        seen();
        wouldBe();
        acts();
        lastCalls();
        anyLastCall();
        behindTheLast();
    }

    // ---- of each part one answer at least; the bounds are asked by the other Edges ----

    private void told() {
        e.whole("Which line was put in later:");
        GallRegister x = Edges.register(Edges.SAMPLE);
        e.is("put()", x.put(), 2);
        e.whole("a parish register told as a text,");
        e.is("LINES", x.count(7), 9);
        e.whole("of inks by how they rise and fade,");
        e.is("rise", x.ink(1, 0), 3);
        e.is("fade", x.ink(1, 2), 2);
        e.whole("pages, dry or damp,");
        e.is("damp", x.page(0), 1);
        e.is("dry", x.page(1), 0);
        e.whole("entries by when they were written and what year they say;");
        e.is("written", x.entry(3, 2), 1);
        e.is("says", x.entry(3, 3), 3);
    }

    private void shades() {
        GallRegister x = Edges.register(Edges.SAMPLE);
        e.whole("what shade each has year by year by a law,");
        e.shades("SAMPLE", x, 0, 5, 10, 15, 20, 19, 18, 17);
        e.shades("SAMPLE", x, 1, 0, 0, 3, 6, 9, 7, 5);
        e.shades("SAMPLE", x, 2, 0, 5, 10, 15, 20, 19, 18);
        e.shades("SAMPLE", x, 3, 0, 5, 10, 15, 20, 19, 18);
        e.whole("which is darkest,");
        e.is("darkest(3)", x.darkest(3), 0);
        e.whole("which rise, pale, cross,");
        e.is("rising(3)", x.rising(3), 14);
        e.is("paling(5)", x.paling(5), 15);
        e.is("cross(3, 0)", x.cross(3, 0), 4);
    }

    private void passing() {
        GallRegister x = Edges.register(Edges.SAMPLE);
        e.whole("which were put in, lie, pass for what they say,");
        e.is("put()", x.put(), 2);
        e.is("lies()", x.lies(), 10);
        e.is("passes(2, 6)", x.passes(2, 6), 1);
        e.is("passes(3, 6)", x.passes(3, 6), 0);
        e.whole("when one is betrayed;");
        e.is("betrayed(2)", x.betrayed(2), -1);
        e.is("betrayed(3)", x.betrayed(3), 1);
    }

    private void seen() {
        GallRegister x = Edges.register(Edges.SAMPLE);
        Due.seen(x, 0, 1, 6, 9);
        e.whole("in which years, with which inks one can have been written by what was seen,");
        e.is("dates", x.dates(0, 1), 1);
        e.is("first", x.first(0, 1), 4);
        Due.seen(x, 1, 1, 6, 19);
        e.is("kinds", x.kinds(1, 1), 1);
        e.whole("by which law;");
        Due.seen(x, 2, 1, 6, 7);
        e.is("laws", x.laws(2), 8);
    }

    private void wouldBe() {
        GallRegister x = Edges.register(Edges.SAMPLE);
        e.whole("how often to bleach, when to retrace;");
        e.is("hide(0, 6)", x.hide(0, 6), 2);
        e.is("save(1)", x.save(1), 2);
        e.whole("shares of entries,");
        e.is("share(3, 0)", x.share(3, 0), 1);
        e.is("share(3, 1)", x.share(3, 1), 2);
        e.whole("two pages that are turned, at rest;");
        e.is("rests(0, 1)", x.rests(0, 1), 1);
        e.whole("wet years by chance,");
        e.is("chance above", x.chance(1, 6, 5, 0), 1);
        e.is("chance below", x.chance(1, 6, 5, 1), 4);
    }

    private void acts() {
        GallRegister x = Edges.register(Edges.SAMPLE);
        x.image(2);
        e.whole("entries retraced, bleached, taken back;");
        e.is("retraces", x.retraces(0, 0, 5), 10);
        e.is("bleaches", x.bleaches(0, 6), 0);
        e.is("undo", x.undo(), 1);
        e.is("SHADE", x.shade(0, 6), 10);
        e.whole("years drawn;");
        e.is("drawn(1, 0)", x.drawn(1, 0), 20);
        e.whole("and images gone back to.");
        e.is("back", x.back(2), 0);
        e.is("SHADE", x.shade(0, 6), 17);
    }

    // ---- the calls of one object ----

    private void lastCalls() {
        e.whole("An object is used for at most 512 calls after it has been made;");
        GallRegister x = new GallRegister();
        int calls = 0;
        for (; calls < 511; calls++) {
            e.is("call " + calls, x.feed(0, 0, 0, 0, 0), calls < 35 ? 20 * (calls + 1) : -1);
        }
        e.is("the 512th", x.end(700), 700);
        GallRegister y = new GallRegister();
        e.is("book", Due.book(y, Edges.ONE), 4);
        for (calls = Due.feeds(Edges.ONE) + 1; calls + 2 <= 510; calls += 2) {
            e.is("bleaches", y.bleaches(0, 0), 0);
            e.is("undo", y.undo(), 0);
        }
        e.is("near the last", y.bleaches(0, 1), 0);
        e.is("the last", y.count(6), 1);
    }

    /** Whatever the 512th call is, behind 511 that leave what stands, it answers and does as a 32nd. */
    private void anyLastCall() throws IllegalAccessException {
        e.whole("An object is used for at most 512 calls after it has been made;");
        Method[] calls = Arrays.stream(GallRegister.class.getDeclaredMethods()).filter(m -> Modifier.isPublic(m.getModifiers()))
                .sorted(Comparator.comparing(Method::getName)).toArray(Method[]::new);
        e.is("methods of the face", calls.length, 77);
        for (Method call : calls) {
            for (int first = 0; first < 3; first++) {
                GallRegister used = stood();
                for (int n = stoodCalls(); n < 511; n++) {
                    leaveAsIs(used, n);
                }
                GallRegister fresh = stood();
                String name = "the 512th, " + call.getName() + " of " + first;
                e.is(name, answer(used, call, first), answer(fresh, call, first));
                List<Long> want = Edges.state(fresh);
                e.holds(name + ", does", Edges.state(used).equals(want));
            }
        }
    }

    private static GallRegister stood() {
        GallRegister x = Edges.register(Edges.SAMPLE);
        Due.seen(x, 1, 1, 3, 0);
        x.image(1);
        x.feed(0x70616765, 0x3b202020, 0, 0, 0);
        return x;
    }

    private static int stoodCalls() {
        return Due.feeds(Edges.SAMPLE) + 1 + 4 + 1 + 1;
    }

    private static void leaveAsIs(GallRegister x, int n) {
        switch (n % 8) {
            case 0: x.mean(6, 0); break;
            case 1: x.ask(1, 1); break;
            case 2: x.laws(1); break;
            case 3: x.rests(0, 1); break;
            case 4: x.heavy(); break;
            case 5: x.luck(1, 20, 1); break;
            case 6: x.hide(0, 6); break;
            default: x.save(1); break;
        }
    }

    /** With a first argument, and 1 for all others. */
    private static long answer(GallRegister x, Method call, int first) throws IllegalAccessException {
        Object[] args = new Object[call.getParameterCount()];
        for (int i = 0; i < args.length; i++) {
            int value = i == 0 ? first : 1;
            if (call.getParameterTypes()[i] == long.class) {
                args[i] = (long) value;
            } else {
                args[i] = value;
            }
        }
        try {
            return ((Number) call.invoke(x, args)).longValue();
        } catch (InvocationTargetException thrown) {
            throw new IllegalStateException(call + " threw", thrown.getCause());
        }
    }

    /** What is answered is free; that nothing is thrown, and all ends, is not (LANGUAGE.md, 7). */
    private void behindTheLast() {
        e.whole("what later calls answer is free.");
        GallRegister x = stood();
        for (int n = 0; n < 2000; n++) {
            leaveAsIs(x, n);
            x.bleaches(n % 5, n % 8);
            x.feed(n, n, n, n, n);
            x.row(n % 5, n % 5, n % 62);
        }
        e.holds("no call threw", true);
    }
}
