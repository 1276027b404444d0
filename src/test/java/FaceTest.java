import java.lang.reflect.Constructor;
import java.lang.reflect.Field;
import java.lang.reflect.Method;
import java.lang.reflect.Modifier;
import java.nio.file.Files;
import java.nio.file.Path;
import java.util.List;
import java.util.Set;
import java.util.TreeSet;
import java.util.regex.Matcher;
import java.util.regex.Pattern;

/** The face as the document has it, and rules of LANGUAGE.md that the words of the source show. */
final class FaceTest {
    private static final Due due = new Due("FaceTest");

    public static void main(String[] args) throws Exception {
        String doc = Files.readString(Path.of(args[0]));
        String source = Files.readString(Path.of(args[1]));
        face(doc.substring(doc.indexOf("```java") + 7, doc.indexOf("```", doc.indexOf("```java") + 7)));
        asWritten(doc, source);
        nested();
        names(source);
        words(source.replaceAll("(?s)/\\*.*?\\*/", "").replaceAll("//[^\\n]*", ""));
        due.close();
    }

    private static void face(String told) {
        Set<String> want = new TreeSet<>();
        Matcher line = Pattern.compile("public ([^;{]+);").matcher(told);
        while (line.find()) {
            want.add(line.group(1).replaceAll("(int|long) \\w+(?=[,)])", "$1").replaceAll("\\s*=.*", ""));
        }
        Set<String> got = new TreeSet<>();
        for (Method m : GallRegister.class.getDeclaredMethods()) {
            if (!Modifier.isPrivate(m.getModifiers()) && !m.isSynthetic()) {
                due.holds(m + " is public and no more", m.getModifiers() == Modifier.PUBLIC);
                got.add(m.getReturnType() + " " + m.getName() + parameters(m.getParameterTypes()));
            }
        }
        for (Constructor<?> c : GallRegister.class.getDeclaredConstructors()) {
            due.holds(c + " is public", c.getModifiers() == Modifier.PUBLIC);
            got.add("GallRegister" + parameters(c.getParameterTypes()));
        }
        for (Field f : GallRegister.class.getDeclaredFields()) {
            if (!Modifier.isPrivate(f.getModifiers())) {
                got.add(Modifier.toString(f.getModifiers()).replace("public ", "") + " " + f.getType() + " " + f.getName());
            }
        }
        due.is("how many the face has", want.size(), 79);
        due.holds("missing " + minus(want, got), minus(want, got).isEmpty());
        due.holds("beyond " + minus(got, want), minus(got, want).isEmpty());
        due.is("the class", GallRegister.class.getModifiers(), Modifier.PUBLIC | Modifier.FINAL);
    }

    /** Each line of the face, and what each promise calls, stands in the source with the names that it has there. */
    private static void asWritten(String doc, String source) {
        Matcher face = Pattern.compile("(?m)^    (public [^;]+);$").matcher(doc);
        int lines = 0;
        while (face.find()) {
            lines++;
            String line = face.group(1);
            due.holds("as it is written there: " + line, source.contains("\n    " + line + (line.endsWith(")") ? " {\n" : ";\n")));
        }
        due.is("lines of the face", lines, 79);
        Matcher promise = Pattern.compile("(?m)^## Promise (\\d+): .*\\n\\n`([^`]+\\))`: ").matcher(doc);
        int promises = 0;
        while (promise.find()) {
            promises++;
            due.is("the number of " + promise.group(2), Integer.parseInt(promise.group(1)), promises);
            due.holds("promised " + promise.group(2), source.contains("\n    public " + promise.group(2) + " {\n"));
        }
        due.is("promises", promises, 78);
    }

    private static String parameters(Class<?>[] types) {
        return "(" + String.join(", ", List.of(types).stream().map(Class::getName).toList()) + ")";
    }

    private static Set<String> minus(Set<String> a, Set<String> b) {
        Set<String> left = new TreeSet<>(a);
        left.removeAll(b);
        return left;
    }

    private static void nested() {
        Class<?>[] inside = GallRegister.class.getDeclaredClasses();
        due.holds("some twelve classes", inside.length < 12);
        for (Class<?> c : inside) {
            due.holds(c + " is static and no part of the face",
                    Modifier.isStatic(c.getModifiers()) && !Modifier.isPublic(c.getModifiers()) && !Modifier.isProtected(c.getModifiers()));
            fields(c);
        }
        fields(GallRegister.class);
    }

    private static void fields(Class<?> c) {
        int count = 0;
        for (Field f : c.getDeclaredFields()) {
            if (Modifier.isStatic(f.getModifiers())) {
                due.holds(f + " is a constant", Modifier.isFinal(f.getModifiers()));
            } else {
                count++;
            }
        }
        due.holds(c + " has some twenty fields: " + count, count <= 20);
    }

    /** No private method, here or inside, bears the name of a public one. */
    private static void names(String source) {
        Set<String> face = new TreeSet<>();
        for (Method m : GallRegister.class.getDeclaredMethods()) {
            if (Modifier.isPublic(m.getModifiers())) {
                face.add(m.getName());
            }
        }
        check(GallRegister.class, face);
        for (Class<?> c : GallRegister.class.getDeclaredClasses()) {
            check(c, face);
        }
        due.holds("no package, no import", !Pattern.compile("(?m)^\\s*(package|import)\\b").matcher(source).find());
        due.holds("signs 1 to 127", source.chars().allMatch(c -> c > 0 && c < 128));
    }

    private static void check(Class<?> c, Set<String> face) {
        for (Method m : c.getDeclaredMethods()) {
            boolean own = c == GallRegister.class && Modifier.isPublic(m.getModifiers());
            due.holds(m + " bears a public name", own || !face.contains(m.getName()));
            due.holds(m + " takes at most seven parameters", m.getParameterCount() <= 7);
        }
    }

    private static void words(String code) {
        for (String word : List.of("throw", "throws", "try", "catch", "finally", "synchronized", "assert", "System.out", "Object",
                "hashCode", "toString", "equals", "Exception", "Error", "volatile", "transient", "native")) {
            due.holds("no " + word, !Pattern.compile("\\b" + Pattern.quote(word) + "\\b").matcher(code).find());
        }
        due.holds("no lambda, no reference", !code.contains("->") && !code.contains("::"));
        // No call makes an object: new stands in fields and in the constructor alone.
        for (String line : code.split("\n")) {
            if (line.contains("new ")) {
                due.holds("made outside a constructor: " + line.strip(),
                        line.matches("\\s+(private )?final .* = new .*;") || line.matches("\\s+(images|rows)\\[\\w+\\] = new \\w+\\(\\);"));
            }
        }
        methodsAreShort(code);
    }

    private static void methodsAreShort(String code) {
        String[] lines = code.split("\n");
        int longest = 0;
        for (int from = 0; from < lines.length; from++) {
            if (lines[from].matches("\\s+[\\w\\[\\] ]+\\(.*\\) \\{") && !lines[from].matches("\\s+(if|for|while|switch|}).*")) {
                String end = lines[from].replaceAll("\\S.*", "") + "}";
                int to = from;
                while (to < lines.length && !lines[to].equals(end)) {
                    to++;
                }
                longest = Math.max(longest, to - from);
            }
        }
        due.holds("methods are short: " + longest, longest > 5 && longest < 60);
    }
}
