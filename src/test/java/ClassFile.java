import java.io.ByteArrayInputStream;
import java.io.DataInputStream;
import java.io.IOException;
import java.io.InputStream;
import java.util.ArrayList;
import java.util.HashSet;
import java.util.List;
import java.util.Set;

/** A compiled class, as far as the rules of LANGUAGE.md ask about it. */
final class ClassFile {
    /** ref: the member, class or type that it names, or "". */
    record Step(int op, String ref) { }

    record Field(String name, String type, int access, boolean hasConstant) { }

    /** lines: from the first to the last. caught: how many entries its table of exceptions has. */
    record Method(String name, String type, int access, List<Step> steps, int caught, int lines, Set<String> attributes) { }

    String name;
    final List<Field> fields = new ArrayList<>();
    final List<Method> methods = new ArrayList<>();
    final Set<String> attributes = new HashSet<>();
    /** All classes (and arrays) that it names. */
    final Set<String> classes = new HashSet<>();
    private Object[] pool;
    private int[] tags;

    /** Two numbers of the pool: a member's class and its name, a name and its type. */
    private record Pair(int first, int second) { }

    ClassFile(Class<?> of) throws IOException {
        try (InputStream file = of.getResourceAsStream("/" + of.getName() + ".class")) {
            DataInputStream in = new DataInputStream(new ByteArrayInputStream(file.readAllBytes()));
            in.skipBytes(8);
            readPool(in);
            in.skipBytes(2);
            name = className(in.readUnsignedShort());
            in.skipBytes(2);
            in.skipBytes(2 * in.readUnsignedShort());
            readFields(in);
            readMethods(in);
            attributes.addAll(readAttributes(in, null));
        }
    }

    private void readPool(DataInputStream in) throws IOException {
        int size = in.readUnsignedShort();
        pool = new Object[size];
        tags = new int[size];
        for (int i = 1; i < size; i++) {
            tags[i] = in.readUnsignedByte();
            switch (tags[i]) {
                case 1: pool[i] = in.readUTF(); break;
                case 3: case 4: in.skipBytes(4); break;
                case 5: case 6: in.skipBytes(8); i++; break;
                case 7: case 8: case 16: case 19: case 20: pool[i] = in.readUnsignedShort(); break;
                case 15: in.skipBytes(3); break;
                default: pool[i] = new Pair(in.readUnsignedShort(), in.readUnsignedShort()); break;
            }
        }
        for (int i = 1; i < size; i++) {
            if (tags[i] == 7) {
                classes.add(className(i));
            }
        }
    }

    private String className(int i) {
        return (String) pool[(Integer) pool[i]];
    }

    private String member(int i) {
        Pair member = (Pair) pool[i];
        Pair named = (Pair) pool[member.second];
        return className(member.first) + "." + pool[named.first] + pool[named.second];
    }

    private interface Reading {
        void of(String attribute, DataInputStream in) throws IOException;
    }

    private Set<String> readAttributes(DataInputStream in, Reading reading) throws IOException {
        Set<String> names = new HashSet<>();
        for (int n = in.readUnsignedShort(); n > 0; n--) {
            String attribute = (String) pool[in.readUnsignedShort()];
            byte[] body = new byte[in.readInt()];
            in.readFully(body);
            names.add(attribute);
            if (reading != null) {
                reading.of(attribute, new DataInputStream(new ByteArrayInputStream(body)));
            }
        }
        return names;
    }

    private void readFields(DataInputStream in) throws IOException {
        for (int n = in.readUnsignedShort(); n > 0; n--) {
            int access = in.readUnsignedShort();
            String fieldName = (String) pool[in.readUnsignedShort()];
            String type = (String) pool[in.readUnsignedShort()];
            fields.add(new Field(fieldName, type, access, readAttributes(in, null).contains("ConstantValue")));
        }
    }

    private void readMethods(DataInputStream in) throws IOException {
        for (int n = in.readUnsignedShort(); n > 0; n--) {
            int access = in.readUnsignedShort();
            String methodName = (String) pool[in.readUnsignedShort()];
            String type = (String) pool[in.readUnsignedShort()];
            List<Step> steps = new ArrayList<>();
            int[] caught = {0};
            int[] lines = {Integer.MAX_VALUE, 0};
            Set<String> own = readAttributes(in, (attribute, body) -> {
                if (attribute.equals("Code")) {
                    readCode(body, steps, caught, lines);
                }
            });
            methods.add(new Method(methodName, type, access, steps, caught[0], lines[1] - lines[0] + 1, own));
        }
    }

    private void readCode(DataInputStream in, List<Step> steps, int[] caught, int[] lines) throws IOException {
        in.skipBytes(4);
        byte[] code = new byte[in.readInt()];
        in.readFully(code);
        for (int at = 0; at < code.length; at += length(code, at)) {
            steps.add(new Step(code[at] & 255, named(code, at)));
        }
        caught[0] = in.readUnsignedShort();
        in.skipBytes(8 * caught[0]);
        readAttributes(in, (attribute, body) -> {
            if (attribute.equals("LineNumberTable")) {
                for (int n = body.readUnsignedShort(); n > 0; n--) {
                    body.skipBytes(2);
                    int line = body.readUnsignedShort();
                    lines[0] = Math.min(lines[0], line);
                    lines[1] = Math.max(lines[1], line);
                }
            }
        });
    }

    private String named(byte[] code, int at) {
        int op = code[at] & 255;
        if (op >= 178 && op <= 185) {
            return member(two(code, at + 1));
        }
        if (op == 187 || op == 189 || op == 192 || op == 193 || op == 197) {
            return className(two(code, at + 1));
        }
        return "";
    }

    private static int two(byte[] code, int at) {
        return (code[at] & 255) << 8 | code[at + 1] & 255;
    }

    private static int four(byte[] code, int at) {
        return two(code, at) << 16 | two(code, at + 2);
    }

    private static int length(byte[] code, int at) {
        int op = code[at] & 255;
        int table = (at & ~3) + 4;
        if (op == 170) {
            return table + 12 + 4 * (four(code, table + 8) - four(code, table + 4) + 1) - at;
        }
        if (op == 171) {
            return table + 8 + 8 * four(code, table + 4) - at;
        }
        if (op == 196) {
            return (code[at + 1] & 255) == 132 ? 6 : 4;
        }
        if (op == 16 || op == 18 || op >= 21 && op <= 25 || op >= 54 && op <= 58 || op == 169 || op == 188) {
            return 2;
        }
        if (op == 17 || op == 19 || op == 20 || op == 132 || op >= 153 && op <= 168 || op >= 178 && op <= 184
                || op == 187 || op == 189 || op == 192 || op == 193 || op == 198 || op == 199) {
            return 3;
        }
        return op == 197 ? 4 : op == 185 || op == 186 || op == 200 || op == 201 ? 5 : 1;
    }
}
