import java.lang.reflect.Method;
import java.lang.reflect.Modifier;
import java.nio.file.Files;
import java.nio.file.Path;
import java.util.ArrayList;
import java.util.List;
import java.util.Set;
import java.util.TreeSet;
import java.util.regex.Matcher;
import java.util.regex.Pattern;

/**
 * Prints a program, ReadmeRun, that makes the calls README.md shows, from its top to its bottom, and fails if one
 * answers otherwise than it says there. Fails itself if README.md leaves out what it must say.
 */
final class ReadmeCalls {
    /** A line of Java with its answer in a comment, and a row of a table: a call, its answer, words. */
    private static final Pattern LINE = Pattern.compile("((?:x\\.\\w+|tell)\\(.*\\));\\s*// (-?\\d+)(?:: .*)?");
    private static final Pattern ROW = Pattern.compile("\\| `(x\\.\\w+\\([^`]*\\))` \\| (-?\\d+) \\| \\S.* \\|");

    private final StringBuilder functions = new StringBuilder();
    private final StringBuilder calls = new StringBuilder();
    private final List<String> faults = new ArrayList<>();
    private final Set<String> shown = new TreeSet<>();

    public static void main(String[] args) throws Exception {
        new ReadmeCalls().run(Files.readString(Path.of(args[0])));
    }

    private void run(String readme) {
        read(readme);
        for (Method m : GallRegister.class.getDeclaredMethods()) {
            if (Modifier.isPublic(m.getModifiers()) && !shown.contains(m.getName()) && !functions.toString().contains("x." + m.getName() + "(")) {
                faults.add(m.getName() + " is not shown");
            }
        }
        for (String said : List.of("at most 512 calls", "    .ci/run\n", "`book` answers -4", "`fault(1)` at which byte", "../shared/DOC.md")) {
            if (!readme.replaceAll("[ ]?\n(?=\\S)", " ").contains(said.strip())) {
                faults.add("it does not say: " + said);
            }
        }
        if (!faults.isEmpty()) {
            faults.forEach(fault -> System.err.println("README.md: " + fault));
            System.exit(1);
        }
        System.out.print(program());
    }

    private void read(String readme) {
        List<String> block = null;
        for (String line : readme.split("\n")) {
            if (block == null && line.equals("```java")) {
                block = new ArrayList<>();
            } else if (block != null && line.equals("```")) {
                java(block);
                block = null;
            } else if (block != null) {
                block.add(line);
            } else if (line.contains("`x.")) {
                Matcher row = ROW.matcher(line);
                if (row.matches()) {
                    call(row.group(1), row.group(2));
                } else {
                    faults.add("no call and answer: " + line);
                }
            }
        }
    }

    /** A block of functions, or of calls in their order. */
    private void java(List<String> block) {
        boolean isFunctions = block.stream().anyMatch(line -> line.startsWith("static "));
        for (String line : block) {
            Matcher m = LINE.matcher(line);
            if (isFunctions) {
                functions.append("    ").append(line).append('\n');
            } else if (m.matches()) {
                call(m.group(1), m.group(2));
            } else if (line.matches("GallRegister x = new GallRegister\\(\\);")) {
                calls.append("        ").append(line).append('\n');
            } else {
                faults.add("no call and answer: " + line);
            }
        }
    }

    private void call(String call, String answer) {
        if (call.startsWith("x.")) {
            shown.add(call.substring(2, call.indexOf('(')));
        }
        String quoted = call.replace("\\", "\\\\").replace("\"", "\\\"");
        calls.append("        due(\"").append(quoted).append("\", ").append(call).append(", ").append(answer).append("L);\n");
    }

    private String program() {
        return "public final class ReadmeRun {\n"
                + "    private static int asked = 0;\n"
                + "    private static int wrong = 0;\n\n"
                + "    private static void due(String call, long got, long want) {\n"
                + "        asked++;\n"
                + "        if (got != want) {\n"
                + "            wrong++;\n"
                + "            System.out.println(\"README.md: \" + call + \" answered \" + got + \", it says \" + want);\n"
                + "        }\n"
                + "    }\n\n"
                + functions
                + "\n    public static void main(String[] args) {\n"
                + calls
                + "        System.out.println(\"README.md: \" + asked + \" answers, \" + wrong + \" wrong\");\n"
                + "        System.exit(wrong == 0 ? 0 : 1);\n"
                + "    }\n"
                + "}\n";
    }
}
