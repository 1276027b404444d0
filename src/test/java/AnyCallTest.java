import java.lang.reflect.InvocationTargetException;
import java.lang.reflect.Method;
import java.util.Arrays;
import java.util.Comparator;
import java.util.Random;

/** Runs of calls (with those that feed it, fewer than 512) with any arguments in any state: none may throw; two like runs answer alike. */
final class AnyCallTest {
    private static final Due due = new Due("AnyCallTest");

    private static final String[] TEXTS = {
        "book years 6 law 2 odds 5;ink rise 5 top 20 fade 1;ink rise 20 top 60 fade 0;page damp;page;"
            + "entry on 0 in 0 wrote 0 says 0;entry on 0 in 1 wrote 2 says 1;entry on 1 in 0 wrote 1 says 1;entry on 1 in 1 wrote 20 says 3;",
        "book years 20 law 1 odds 3;ink rise 20 top 60 fade 9;page;page;page damp;page;"
            + "entry on 0 in 0 wrote 0 says 0;entry on 1 in 0 wrote 5 says 20;entry on 2 in 0 wrote 19 says 0;entry on 3 in 0 wrote 20 says 0;",
        "book years 1 law 3 odds 10;", "", "book years 2 law 0 odds 0; ink"};

    public static void main(String[] args) throws Exception {
        Method[] calls = GallRegister.class.getDeclaredMethods();
        calls = Arrays.stream(calls).filter(m -> java.lang.reflect.Modifier.isPublic(m.getModifiers()))
                .sorted(Comparator.comparing(Method::getName)).toArray(Method[]::new);
        for (int run = 0; run < 2000; run++) {
            due.is("run " + run, run(calls, run), run(calls, run));
        }
        due.close();
    }

    private static long run(Method[] calls, int seed) throws IllegalAccessException {
        Random random = new Random(seed);
        GallRegister x = new GallRegister();
        long sum = 0;
        for (int i = 0; i < 360; i++) {
            if (random.nextInt(60) == 0 || i == 0 && seed % 2 == 0) {
                x.end(0);
                Due.book(x, TEXTS[random.nextInt(TEXTS.length)]);
            }
            Method call = calls[random.nextInt(calls.length)];
            Object[] args = new Object[call.getParameterCount()];
            for (int k = 0; k < args.length; k++) {
                int v = any(random);
                if (call.getParameterTypes()[k] == long.class) {
                    args[k] = random.nextInt(8) == 0 ? random.nextLong() : (Long) (long) v;
                } else {
                    args[k] = v;
                }
            }
            try {
                sum = sum * 31 + ((Number) call.invoke(x, args)).longValue();
            } catch (InvocationTargetException e) {
                due.holds("run " + seed + " call " + i + " " + call.getName() + Arrays.toString(args) + " threw " + e.getCause(), false);
            }
        }
        return sum;
    }

    private static int any(Random random) {
        switch (random.nextInt(12)) {
            case 0: return random.nextInt();
            case 1: return Integer.MAX_VALUE - random.nextInt(3);
            case 2: return Integer.MIN_VALUE + random.nextInt(3);
            case 3: return random.nextInt(800) - 50;
            case 4: case 5: return random.nextInt(64) - 1;
            default: return random.nextInt(9) - 1;
        }
    }
}
