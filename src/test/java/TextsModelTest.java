import java.util.ArrayList;
import java.util.List;
import java.util.Random;
import java.util.regex.Pattern;

/**
 * Some thousand TEXTS, right ones and such as were changed a little, against a plain reading of the three
 * grammars by patterns: a LINE is right if ANY form of the grammar fits it.
 */
public final class TextsModelTest {
    private static final String LABEL = "[a-z0-9-]{1,8}";
    private static final String NAME = "(\\.|" + LABEL + "(\\." + LABEL + "){0,3})";
    private static final String[] SOUP = {
        "pass", "drop", "refuse", "proto", "from", "to", "port", "at", "known", "in", "out", "peer", "net", "has", "first", "last", "mark",
        "accept", "go", "degree", "med", "tag", "prepend", "zone", "a", "ns", "alias", "text", ".", "*", "*.", "*.a", "*..", "a.", ".a", "-",
        "0", "1", "3", "4", "5", "24", "32", "33", "255", "256", "500", "501", "65535", "65536", "000000001", "0000000001", "999999999",
        "1.2.3.4", "1.2.3", "1.2.3.4.5", "1.2.3.256", "01.2.3.4", "0.0.0.0", "255.255.255.255", "1..3.4", "10.0.0.0/8", "10.0.0.1/8",
        "10.0.0.1/32", "0.0.0.0/0", "1.0.0.0/0", "10.0.0.0/33", "10.0.0.0/", "10.0.0.0", "/8", "zone.a", "a.zone", "a.b.c.d", "a.b.c.d.e",
        "*.a.b.c", "*.a.b.c.d", "abcdefgh", "abcdefghi", "A", "a_b", "a..b", "com", "x.com", "*.com", "*.x.com", "a*", "known.known",
        "-1", "+1", "1/1", "\t", "a".repeat(40), "a".repeat(41), "0".repeat(41),
    };
    private static final Random R = new Random(19);

    private TextsModelTest() {
    }

    private static boolean number(String w, int least, int most) {
        return w.matches("[0-9]{1,9}") && Integer.parseInt(w) >= least && Integer.parseInt(w) <= most;
    }

    private static long address(String w) {
        String[] parts = w.split("\\.", -1);
        long v = 0;
        for (String p : parts) {
            if (parts.length != 4 || !number(p, 0, 255)) {
                return -1;
            }
            v = v * 256 + Integer.parseInt(p);
        }
        return v;
    }

    /** The BITS of a NET; -1: it is none. */
    private static int bits(String w) {
        String[] halves = w.split("/", -1);
        if (halves.length != 2 || address(halves[0]) < 0 || !number(halves[1], 0, 32)) {
            return -1;
        }
        int bits = Integer.parseInt(halves[1]);
        return address(halves[0]) % (1L << (32 - bits)) == 0 ? bits : -1;
    }

    private static String at(List<String> words, int k) {
        return k < words.size() ? words.get(k) : "";
    }

    /** How many WORDS the clause at k has; 0: it is none. */
    private static int filterClause(List<String> w, int k) {
        switch (w.get(k)) {
            case "known": return 1;
            case "proto": return number(at(w, k + 1), 0, 255) ? 2 : 0;
            case "at": return number(at(w, k + 1), 0, 3) ? 2 : 0;
            case "from": case "to": return bits(at(w, k + 1)) >= 0 ? 2 : 0;
            case "port": return number(at(w, k + 1), 0, 65535) && number(at(w, k + 2), Integer.parseInt(at(w, k + 1)), 65535) ? 3 : 0;
            default: return 0;
        }
    }

    private static int condition(List<String> w, int k) {
        switch (w.get(k)) {
            case "peer": return number(at(w, k + 1), 0, 3) ? 2 : 0;
            case "has": case "first": case "last": case "mark": return number(at(w, k + 1), 0, 65535) ? 2 : 0;
            case "net": return bits(at(w, k + 1)) >= 0 && number(at(w, k + 2), bits(at(w, k + 1)), 32)
                && number(at(w, k + 3), Integer.parseInt(at(w, k + 2)), 32) ? 4 : 0;
            default: return 0;
        }
    }

    private static int change(List<String> w, int k) {
        switch (w.get(k)) {
            case "degree": case "med": case "tag": return number(at(w, k + 1), 0, 65535) ? 2 : 0;
            case "prepend": return number(at(w, k + 1), 1, 4) ? 2 : 0;
            default: return 0;
        }
    }

    private static boolean filter(List<String> w) {
        boolean right = w.get(0).matches("pass|drop|refuse");
        List<String> told = new ArrayList<>();
        for (int k = 1; k < w.size() && right;) {
            int many = filterClause(w, k);
            right = many > 0 && !told.contains(w.get(k));
            told.add(w.get(k));
            k += many;
        }
        return right;
    }

    private static boolean policy(List<String> w) {
        boolean right = w.get(0).matches("in|out");
        List<String> told = new ArrayList<>();
        boolean verdict = false;
        for (int k = 1; k < w.size() && right;) {
            int many = 1;
            if (!verdict && w.get(k).matches("accept|refuse|go")) {
                verdict = true;
            } else {
                many = verdict ? change(w, k) : condition(w, k);
                right = many > 0 && !told.contains(w.get(k));
                told.add(w.get(k));
            }
            k += many;
        }
        return right && verdict;
    }

    private static boolean below(String name, String zone) {
        return zone.equals(".") || name.equals(zone) || name.endsWith("." + zone);
    }

    private static boolean row(List<String> w, List<String> zones) {
        if (w.size() != 4 || zones.isEmpty() || !number(w.get(1), 1, 500)) {
            return false;
        }
        String star = "\\*(\\." + LABEL + "){0,3}";
        String v = w.get(3);
        return w.get(0).matches(NAME + "|" + star) && below(w.get(0), zones.get(zones.size() - 1))
            && (w.get(2).equals("a") && address(v) >= 0 || w.get(2).matches("ns|alias") && v.matches(NAME)
            || w.get(2).equals("text") && number(v, 0, 65535));
    }

    private static boolean zone(List<String> w, List<String> zones) {
        return w.size() == 3 && w.get(0).equals("zone") && w.get(1).matches(NAME) && number(w.get(2), 1, 500)
            && !zones.contains(w.get(1)) && zones.size() < 3;
    }

    /** What load answers. */
    private static int due(int kind, String text) {
        int rows = 0;
        List<String> zones = new ArrayList<>();
        String[] lines = text.isEmpty() ? new String[0] : (text.endsWith("\n") ? text.substring(0, text.length() - 1) : text).split("\n", -1);
        for (int i = 0; i < lines.length; i++) {
            List<String> w = new ArrayList<>(List.of(lines[i].split(" +")));
            w.removeIf(String::isEmpty);
            boolean stands = lines[i].matches("[A-Za-z0-9.*/ -]*") && !Pattern.compile("[^ ]{41}").matcher(lines[i]).find();
            if (stands && w.isEmpty()) {
                continue;
            }
            boolean isZone = stands && kind == 2 && zone(w, zones);
            boolean isRow = stands && (kind == 0 ? filter(w) && rows < 12 : kind == 1 ? policy(w) && rows < 16 : row(w, zones) && rows < 24);
            if (isZone) {
                zones.add(w.get(1));
            } else if (isRow) {
                rows++;
            } else {
                return -1 - i;
            }
        }
        return rows;
    }

    private static String pick(String... of) {
        return of[R.nextInt(of.length)];
    }

    private static String rightLine(int kind) {
        StringBuilder s = new StringBuilder();
        if (kind == 0) {
            s.append(pick("pass", "drop", "refuse"));
            for (int k = R.nextInt(4); k > 0; k--) {
                s.append(" ").append(pick("proto 17", "from 10.0.0.0/8", "to 10.0.1.0/24", "port 5 5", "port 0 65535", "at 3", "known", "to 0.0.0.0/0"));
            }
        } else if (kind == 1) {
            s.append(pick("in", "out"));
            for (int k = R.nextInt(3); k > 0; k--) {
                s.append(" ").append(pick("peer 3", "net 10.0.0.0/8 8 8", "net 0.0.0.0/0 0 32", "has 65535", "first 0", "last 7", "mark 1"));
            }
            s.append(" ").append(pick("accept", "refuse", "go"));
            for (int k = R.nextInt(3); k > 0; k--) {
                s.append(" ").append(pick("degree 0", "med 65535", "tag 7", "prepend 4", "prepend 1"));
            }
        } else if (R.nextInt(4) == 0) {
            s.append("zone ").append(pick(".", "com", "x.com", "zone", "a")).append(" ").append(pick("1", "500", "9"));
        } else {
            s.append(pick("a", "x.com", "com", "zone", "*", "*.com", "a.zone", ".", "ns", "1", "1.2.3.4", "-.a")).append(" ").append(pick("1", "500", "9"))
                .append(" ").append(pick("a 1.2.3.4", "ns a.b", "ns .", "alias zone", "text 65535", "text 0", "ns 1.2.3.4"));
        }
        return s.toString();
    }

    /** One WORD becomes another one, goes, or comes. */
    private static String changed(String line) {
        List<String> w = new ArrayList<>(List.of(line.split(" ")));
        int k = R.nextInt(w.size());
        switch (R.nextInt(5)) {
            case 0: w.remove(k); break;
            case 1: w.add(k, pick(SOUP)); break;
            case 2: w.add(k, w.get(R.nextInt(w.size()))); break;
            default: w.set(k, pick(SOUP));
        }
        return String.join(pick(" ", " ", "  "), w);
    }

    private static String text(int kind) {
        StringBuilder s = new StringBuilder();
        if (kind == 2 && R.nextInt(10) > 0) {
            s.append("zone ").append(pick(".", ".", ".", "com", "zone", "a")).append(" 9\n");
        }
        for (int k = R.nextInt(R.nextInt(8) == 0 ? 30 : 5); k >= 0; k--) {
            String line = R.nextInt(12) == 0 ? pick("", " ", "   ") : rightLine(kind);
            if (R.nextInt(4) == 0 && !line.isBlank()) {
                line = changed(line);
            }
            s.append(pick("", "", " ")).append(line).append(pick("", "", " "));
            if (k > 0 || R.nextInt(2) == 0) {
                s.append("\n");
            }
        }
        return s.length() > 512 ? s.substring(0, 512) : s.toString();
    }

    public static void main(String[] args) {
        InternetHouse x = new InternetHouse();
        int many = args.length > 0 ? Integer.parseInt(args[0]) : 6000;
        for (int i = 0; i < many; i++) {
            if (i % 5 == 0) {
                x = new InternetHouse();
                x.node(2);
            }
            InternetHouse y = x;
            int kind = R.nextInt(3);
            String text = text(kind);
            Due.is(kind + ":\n" + text + "\n", due(kind, text), () -> Wire.load(y, 0, kind, text));
        }
        Due.end("TextsModelTest");
    }
}
