import java.lang.reflect.Array;
import java.lang.reflect.Field;
import java.lang.reflect.Modifier;
import java.nio.file.Files;
import java.nio.file.Path;
import java.util.ArrayList;
import java.util.Arrays;
import java.util.HashMap;
import java.util.IdentityHashMap;
import java.util.List;
import java.util.Map;
import java.util.Set;
import java.util.TreeSet;
import java.util.regex.Matcher;
import java.util.regex.Pattern;

/** Rules of LANGUAGE.md, by their numbers, that the compiled class shows. */
final class RulesTest {
    private static final Due due = new Due("RulesTest");

    private static final int NEW = 187;
    private static final int NEW_NUMBERS = 188;
    private static final int NEW_OBJECTS = 189;
    private static final int NEW_ROWS = 197;
    private static final int THROW = 191;
    private static final int CAST = 192;
    private static final int CALL_FROM = 182;
    private static final int CALL_TO = 186;
    private static final int DYNAMIC = 186;

    private final List<ClassFile> files = new ArrayList<>();
    private final Set<String> own = new TreeSet<>();

    public static void main(String[] args) throws Exception {
        new RulesTest().run(Files.readString(Path.of(args[1])));
        due.close();
    }

    private void run(String source) throws Exception {
        for (Class<?> c : GallRegister.class.getNestMembers()) {
            files.add(new ClassFile(c));
            own.add(c.getName());
        }
        rule2Classes();
        rule3Types();
        rule4Library();
        rule5Statics();
        rule6Words();
        rule7Divisors();
        Map<String, Set<String>> calls = calls();
        rule8Recursion(calls);
        rule9Loops(source);
        rule11Sizes(calls);
        rule12Objects();
    }

    private interface Looked {
        void at(String where, List<ClassFile.Step> steps, int i);
    }

    private void steps(Looked looked) {
        for (ClassFile file : files) {
            for (ClassFile.Method m : file.methods) {
                for (int i = 0; i < m.steps().size(); i++) {
                    looked.at(file.name + "." + m.name(), m.steps(), i);
                }
            }
        }
    }

    private static void rule2Classes() {
        Set<String> declared = new TreeSet<>();
        declared.add("GallRegister");
        for (Class<?> c : GallRegister.class.getDeclaredClasses()) {
            declared.add(c.getName());
            due.holds("2: " + c + " is static", Modifier.isStatic(c.getModifiers()));
        }
        for (Class<?> c : GallRegister.class.getNestMembers()) {
            due.holds("2: " + c + " stands right inside", declared.contains(c.getName()));
            due.holds("2: " + c + " is local", !c.isLocalClass() && !c.isAnonymousClass());
        }
        due.is("2: classes", GallRegister.class.getNestMembers().length, declared.size());
    }

    private void rule3Types() {
        Set<String> plain = Set.of("I", "J", "S", "B", "C", "Z", "D", "F", "V");
        Pattern type = Pattern.compile("\\[*(?:L[^;]+;|[A-Z])");
        for (ClassFile file : files) {
            List<String> told = new ArrayList<>();
            file.fields.forEach(f -> told.add(f.type()));
            file.methods.forEach(m -> told.add(m.type().replaceAll("[()]", "")));
            for (String types : told) {
                Matcher one = type.matcher(types);
                while (one.find()) {
                    String bare = one.group().replace("[", "");
                    int deep = one.group().length() - bare.length();
                    boolean isOwn = bare.startsWith("L") && own.contains(bare.substring(1, bare.length() - 1));
                    boolean isText = bare.equals("Ljava/lang/String;");
                    due.holds("3: " + file.name + " " + one.group(), plain.contains(bare) ? deep <= 2 : isOwn && deep <= 1 || isText && deep == 0);
                }
            }
        }
    }

    private void rule4Library() {
        Set<String> library = Set.of("java/lang/Object.<init>()V",
                "java/lang/Integer.bitCount(I)I", "java/lang/Integer.compare(II)I", "java/lang/Math.max(II)I", "java/lang/Math.min(II)I",
                "java/lang/String.length()I", "java/lang/String.charAt(I)C",
                "java/lang/System.arraycopy(Ljava/lang/Object;ILjava/lang/Object;II)V");
        steps((where, steps, i) -> {
            String ref = steps.get(i).ref();
            if (steps.get(i).op() >= 178 && steps.get(i).op() <= 185) {
                String owner = ref.substring(0, ref.indexOf('.'));
                // clone() of an array is called on the array's class.
                due.holds("4: " + where + " uses " + ref, own.contains(owner) || library.contains(ref));
            }
        });
    }

    private void rule5Statics() {
        for (ClassFile file : files) {
            for (ClassFile.Field f : file.fields) {
                if (Modifier.isStatic(f.access())) {
                    due.holds("5: " + file.name + "." + f.name() + " is a constant", Modifier.isFinal(f.access()) && f.hasConstant());
                }
            }
            for (ClassFile.Method m : file.methods) {
                due.holds("5: " + file.name + " has a static block", !m.name().equals("<clinit>"));
            }
        }
    }

    private void rule6Words() {
        for (ClassFile file : files) {
            due.holds("6: " + file.name + " has lambdas or texts joined", !file.attributes.contains("BootstrapMethods"));
            for (ClassFile.Method m : file.methods) {
                due.is("6: " + file.name + "." + m.name() + " catches", m.caught(), 0);
                due.holds("6: " + file.name + "." + m.name() + " tells what it throws", !m.attributes().contains("Exceptions"));
            }
        }
        steps((where, steps, i) -> {
            int op = steps.get(i).op();
            due.holds("6: " + where + " throws, casts or waits", op != THROW && op != CAST && op != DYNAMIC && op != 194 && op != 195);
        });
    }

    /** Each divisor is a constant that is written out (0 would be told by -Xlint). */
    private void rule7Divisors() {
        int[] count = {0};
        steps((where, steps, i) -> {
            int op = steps.get(i).op();
            if (op == 108 || op == 109 || op == 112 || op == 113) {
                int ahead = steps.get(i - 1).op();
                due.holds("7: " + where + " divides by what may be 0", ahead >= 4 && ahead <= 8 || ahead == 10 || ahead >= 16 && ahead <= 20);
                count[0]++;
            }
        });
        due.holds("7: divisors were found", count[0] > 5);
    }

    // ---- which method calls which ----

    private Map<String, Set<String>> calls() {
        Map<String, Set<String>> calls = new HashMap<>();
        for (ClassFile file : files) {
            for (ClassFile.Method m : file.methods) {
                Set<String> called = calls.computeIfAbsent(file.name + "." + m.name() + m.type(), k -> new TreeSet<>());
                for (ClassFile.Step step : m.steps()) {
                    if (step.op() >= CALL_FROM && step.op() < CALL_TO) {
                        called.add(step.ref());
                    }
                }
            }
        }
        return calls;
    }

    private void rule8Recursion(Map<String, Set<String>> calls) {
        Set<String> selves = new TreeSet<>();
        calls.forEach((from, called) -> {
            if (called.remove(from)) {
                selves.add(from.substring(0, from.indexOf('(')));
            }
        });
        due.holds("8: those that call themselves " + selves, selves.equals(Set.of("GallRegister.weighed")));
        for (ClassFile.Method m : files.get(0).methods) {
            if (m.name().equals("weighed")) {
                due.holds("8: it is private and static", Modifier.isPrivate(m.access()) && Modifier.isStatic(m.access()));
            }
        }
    }

    /** How many calls stand open at once, this one too; a ring of them (recursion aside) is told as 100. */
    private static int deep(Map<String, Set<String>> calls, String from, int open) {
        int most = open;
        if (open < 100) {
            for (String to : calls.getOrDefault(from, Set.of())) {
                most = Math.max(most, deep(calls, to, open + 1));
            }
        }
        return most;
    }

    /** Each loop has a bound in its own line. */
    private static void rule9Loops(String source) {
        String code = source.replaceAll("(?s)/\\*.*?\\*/", "").replaceAll("//[^\\n]*", "");
        int loops = 0;
        for (String line : code.split("\n")) {
            String is = line.strip();
            if (is.startsWith("for ")) {
                loops++;
                due.holds("9: " + is, is.matches("for \\(int (\\w+) = [^;]+; \\1 (<|<=) [^;]+; \\1(\\+\\+| \\+= 3)\\) \\{")
                        || is.matches("for \\(int (\\w+) = [^;]+; \\1 >= 0; \\1(--| -= 8)\\) \\{")
                        || is.matches("for \\(int i = 0; i \\+ 2 < row\\.size; i \\+= 3\\) \\{"));
            } else if (is.contains("while")) {
                loops++;
                due.holds("9: " + is, is.matches("while \\((start|behind) < length && .+\\) \\{"));
            }
            due.holds("9: " + is, !is.matches("do\\b.*"));
        }
        due.holds("9: loops were found", loops > 20);
    }

    private void rule11Sizes(Map<String, Set<String>> calls) {
        due.holds("11: classes", files.size() <= 12);
        for (ClassFile file : files) {
            long count = file.fields.stream().filter(f -> !Modifier.isStatic(f.access())).count();
            due.holds("11: " + file.name + " has fields: " + count, count <= 20);
            for (ClassFile.Method m : file.methods) {
                due.holds("11: " + file.name + "." + m.name() + " has lines: " + m.lines(), m.lines() <= 60);
                if (file.name.equals("GallRegister") && Modifier.isPublic(m.access())) {
                    int open = deep(calls, file.name + "." + m.name() + m.type(), 1);
                    due.holds("11: " + m.name() + " goes deep: " + open, open <= 8);
                }
            }
        }
    }

    // ---- what is made ----

    private void rule12Objects() throws IllegalAccessException {
        steps((where, steps, i) -> {
            int op = steps.get(i).op();
            boolean makes = op == NEW || op == NEW_NUMBERS || op == NEW_OBJECTS || op == NEW_ROWS;
            due.holds("12: " + where + " makes objects", !makes || where.endsWith(".<init>"));
        });
        // One room has 600,000 objects and 7.3 million elements: some hundred registers must find room in it.
        long[] count = new long[2];
        countFrom(new GallRegister(), new IdentityHashMap<>(), count);
        due.holds("12: objects and arrays of one: " + count[0], count[0] > 50 && count[0] < 1000);
        due.holds("12: fields and elements of one: " + count[1], count[1] > 1000 && count[1] < 10000);
    }

    private static void countFrom(Object o, Map<Object, Boolean> met, long[] count) throws IllegalAccessException {
        if (o == null || met.put(o, true) != null) {
            return;
        }
        count[0]++;
        if (o.getClass().isArray()) {
            count[1] += Array.getLength(o);
            if (o instanceof Object[] parts) {
                for (Object part : parts) {
                    countFrom(part, met, count);
                }
            }
            return;
        }
        for (Field f : Arrays.stream(o.getClass().getDeclaredFields()).filter(f -> !Modifier.isStatic(f.getModifiers())).toList()) {
            count[1]++;
            if (!f.getType().isPrimitive()) {
                f.setAccessible(true);
                countFrom(f.get(o), met, count);
            }
        }
    }
}
