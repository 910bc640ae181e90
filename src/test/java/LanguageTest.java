import java.io.DataInputStream;
import java.io.IOException;
import java.io.InputStream;
import java.util.ArrayList;
import java.util.HashMap;
import java.util.HashSet;
import java.util.List;
import java.util.Map;
import java.util.Set;
import java.util.TreeSet;

/**
 * What LANGUAGE.md asks for that can be read off the compiled classes: calls at most eight deep and no
 * recursion, at most seven parameters, some twenty fields, some twelve classes, nothing caught, no private
 * method with the name of a public one, and no library but what is listed.
 */
public final class LanguageTest {
    /** How many bytes follow an opcode of the JVM (switches and wide are handled by themselves). */
    private static int behind(int op) {
        if (op == 16 || op == 18 || op >= 21 && op <= 25 || op >= 54 && op <= 58 || op == 169 || op == 188) {
            return 1;
        }
        if (op == 17 || op == 19 || op == 20 || op == 132 || op >= 153 && op <= 168 || op >= 178 && op <= 184
                || op == 187 || op == 189 || op == 192 || op == 193 || op == 198 || op == 199) {
            return 2;
        }
        return op == 197 ? 3 : op == 185 || op == 186 || op == 200 || op == 201 ? 4 : 0;
    }

    private static final Set<String> LIBRARY = Set.of(
        "java/lang/Math", "java/lang/Integer", "java/lang/Long", "java/lang/System", "java/lang/String", "java/lang/Object",
        "java/lang/StringBuilder", "java/util/Arrays", "java/util/NoSuchElementException", "java/lang/IllegalArgumentException",
        "java/lang/IllegalStateException");

    private final Map<String, Set<String>> calls = new HashMap<>();
    private final Map<String, Integer> depth = new HashMap<>();
    private final Set<String> publicNames = new HashSet<>();
    private final List<String> otherNames = new ArrayList<>();
    private final List<String> nested = new ArrayList<>();

    private Object[] pool;

    private void readPool(DataInputStream in) throws IOException {
        int many = in.readUnsignedShort();
        pool = new Object[many];
        for (int i = 1; i < many; i++) {
            int tag = in.readUnsignedByte();
            if (tag == 1) {
                pool[i] = in.readUTF();
            } else if (tag == 5 || tag == 6) {
                in.readLong();
                i++;
            } else if (tag == 7 || tag == 8 || tag == 16 || tag == 19 || tag == 20) {
                pool[i] = new int[] {in.readUnsignedShort()};
            } else if (tag == 15) {
                in.readUnsignedByte();
                in.readUnsignedShort();
            } else if (tag == 3 || tag == 4) {
                in.readInt();
            } else {
                pool[i] = new int[] {in.readUnsignedShort(), in.readUnsignedShort()};
            }
        }
    }

    private String text(int i) {
        Object o = pool[i];
        return o instanceof String ? (String) o : text(((int[]) o)[0]);
    }

    private void readClass(String name) throws IOException {
        try (InputStream raw = LanguageTest.class.getResourceAsStream("/" + name + ".class")) {
            DataInputStream in = new DataInputStream(raw);
            in.readInt();
            in.readInt();
            readPool(in);
            in.readUnsignedShort();
            in.readUnsignedShort();
            in.readUnsignedShort();
            for (int i = in.readUnsignedShort(); i > 0; i--) {
                in.readUnsignedShort();
            }
            int own = 0;
            for (int i = in.readUnsignedShort(); i > 0; i--) {
                int flags = in.readUnsignedShort();
                String field = text(in.readUnsignedShort());
                String type = text(in.readUnsignedShort());
                skipAttributes(in);
                own += (flags & 8) == 0 ? 1 : 0;
                boolean fine = (flags & 8) == 0 || (flags & 16) != 0;
                Due.is("static field " + name + "." + field + " is final", 1, () -> fine ? 1 : 0);
                boolean flat = !type.startsWith("[[") || type.equals("[[I");
                Due.is("two dimensions of numbers only: " + name + "." + field, 1, () -> flat ? 1 : 0);
            }
            int fields = own;
            Due.is("some twenty fields in " + name + ": " + own, 1, () -> fields <= 20 ? 1 : 0);
            for (int i = in.readUnsignedShort(); i > 0; i--) {
                readMethod(in, name);
            }
            for (int i = 1; i < pool.length; i++) {
                if (pool[i] instanceof String && ((String) pool[i]).startsWith("InternetHouse$")
                        && !((String) pool[i]).contains(";") && !nested.contains(pool[i])) {
                    nested.add((String) pool[i]);
                }
            }
        }
    }

    private void skipAttributes(DataInputStream in) throws IOException {
        for (int i = in.readUnsignedShort(); i > 0; i--) {
            in.readUnsignedShort();
            in.skipBytes(in.readInt());
        }
    }

    private void readMethod(DataInputStream in, String cls) throws IOException {
        int flags = in.readUnsignedShort();
        String name = text(in.readUnsignedShort());
        String type = text(in.readUnsignedShort());
        String key = cls + "." + name + type;
        calls.put(key, new TreeSet<>());
        if (cls.equals("InternetHouse") && (flags & 1) != 0 && !name.startsWith("<")) {
            publicNames.add(name);
        } else if (!name.startsWith("<")) {
            otherNames.add(name);
        }
        int parameters = 0;
        for (int i = 1; type.charAt(i) != ')'; i++) {
            while (type.charAt(i) == '[') {
                i++;
            }
            if (type.charAt(i) == 'L') {
                i = type.indexOf(';', i);
            }
            parameters++;
        }
        int many = parameters;
        Due.is("parameters of " + key, 1, () -> many <= 7 ? 1 : 0);
        for (int i = in.readUnsignedShort(); i > 0; i--) {
            String attribute = text(in.readUnsignedShort());
            int length = in.readInt();
            if (!attribute.equals("Code")) {
                in.skipBytes(length);
                continue;
            }
            in.readInt();
            byte[] code = new byte[in.readInt()];
            in.readFully(code);
            int caught = in.readUnsignedShort();
            Due.is("nothing is caught in " + key, 0, () -> caught);
            in.skipBytes(8 * caught);
            skipAttributes(in);
            readCode(code, key);
        }
    }

    private void readCode(byte[] c, String key) {
        int i = 0;
        while (i < c.length) {
            int op = c[i] & 255;
            if (op >= 182 && op <= 186) {
                int[] ref = (int[]) pool[(c[i + 1] & 255) << 8 | c[i + 2] & 255];
                called(key, op, ref);
            }
            if (op == 170 || op == 171) {
                int at = (i / 4 + 1) * 4;
                int first = word(c, at + 4);
                i = at + (op == 170 ? 12 + 4 * (word(c, at + 8) - first + 1) : 8 + 8 * first);
            } else if (op == 196) {
                i += (c[i + 1] & 255) == 132 ? 6 : 4;
            } else {
                i += 1 + behind(op);
            }
        }
    }

    private static int word(byte[] c, int i) {
        return c[i] << 24 | (c[i + 1] & 255) << 16 | (c[i + 2] & 255) << 8 | c[i + 3] & 255;
    }

    private void called(String key, int op, int[] ref) {
        Due.is("no lambda in " + key, 1, () -> op == 186 ? 0 : 1);
        if (op == 186) {
            return;
        }
        String cls = text(ref[0]);
        int[] type = (int[]) pool[ref[1]];
        if (cls.startsWith("InternetHouse")) {
            calls.get(key).add(cls + "." + text(type[0]) + text(type[1]));
        } else {
            boolean listed = LIBRARY.contains(cls) || cls.startsWith("[");
            Due.is("library in " + key + ": " + cls, 1, () -> listed ? 1 : 0);
        }
    }

    private int deep(String key, int open) {
        if (open > 40 || !calls.containsKey(key)) {
            return open > 40 ? 1000 : 0;
        }
        Integer known = depth.get(key);
        if (known != null) {
            return known;
        }
        int best = 0;
        for (String other : calls.get(key)) {
            best = Math.max(best, deep(other, open + 1));
        }
        depth.put(key, best + 1);
        return best + 1;
    }

    public static void main(String[] args) throws IOException {
        LanguageTest t = new LanguageTest();
        t.readClass("InternetHouse");
        for (int i = 0; i < t.nested.size(); i++) {
            t.readClass(t.nested.get(i));
        }
        Due.is("some twelve classes inside: " + t.nested.size(), 1, () -> t.nested.size() <= 12 ? 1 : 0);
        for (String key : new TreeSet<>(t.calls.keySet())) {
            int d = t.deep(key, 0);
            Due.is("calls from " + key + " go " + d + " deep", 1, () -> d <= 8 ? 1 : 0);
        }
        for (String name : t.otherNames) {
            Due.is("no other method bears the public name " + name, 1, () -> t.publicNames.contains(name) ? 0 : 1);
        }
        Due.is("31 calls and audit", 31, () -> t.publicNames.size());
        Due.end("LanguageTest");
    }
}
