import java.io.IOException;
import java.nio.charset.StandardCharsets;
import java.nio.file.Files;
import java.nio.file.Path;
import java.util.ArrayList;
import java.util.List;
import java.util.regex.Matcher;
import java.util.regex.Pattern;
import java.util.stream.Stream;

/**
 * Each place in the document that names a boundary case stands in a sentence that a test names
 * (Due.sentence). Where a word of such a case tells of an order alone, it stands in ORDERS.
 */
public final class SentencesTest {
    private static final Pattern BOUNDARY = Pattern.compile(
        "at most|at least|more than|not more|or more|or less|less than|below|above|longer|shorter|too long|too short|Exception:|modulo"
        + "|wrap|as far as|up to|divisible|beyond|BEHIND|\\d+ to \\d+|upwards|cut off|\\b[Nn]one\\b|empty|last one|\\bonly\\b|no more|\\d+ UNITS"
        + "|[Tt]he least|[Ww]ithout|UNITS ago|if there is|room|full|greater|lesser|fewest|instead of|is dropped|are dropped|is gone|are gone"
        + "|is nothing|nothing more|another length|can't be");
    private static final Pattern NAMED = Pattern.compile("Due\\.sentence\\(\"((?:[^\"\\\\]|\\\\.)*)\"\\)");
    private static final String[] ORDERS = {
        "each does what is said at CLOCK below, in the order of this text",
        "2, 3, 4: as found by LINK, DISTANCE, OUTER below.",
        "At CLOCK, then (behind what is said above of all PEERS)",
    };

    private static List<String> named() throws IOException {
        List<String> all = new ArrayList<>(List.of(ORDERS));
        try (Stream<Path> files = Files.list(Path.of("src/test/java"))) {
            for (Path p : (Iterable<Path>) files.sorted()::iterator) {
                Matcher m = NAMED.matcher(Files.readString(p, StandardCharsets.UTF_8));
                while (m.find()) {
                    all.add(m.group(1).replace("\\\"", "\"").replace("\\\\", "\\"));
                }
            }
        }
        return all;
    }

    public static void main(String[] args) throws IOException {
        String doc = Due.document();
        int from = doc.indexOf("## Terms");
        int to = doc.indexOf("## Not promised");
        if (from < 0 || to < from) {
            System.out.println("the document is not there");
            System.exit(1);
        }
        boolean[] covered = new boolean[doc.length()];
        List<String> named = named();
        for (String s : named) {
            for (int at = doc.indexOf(s); at >= 0; at = doc.indexOf(s, at + 1)) {
                java.util.Arrays.fill(covered, at, at + s.length(), true);
            }
        }
        int places = 0;
        int wrong = 0;
        Matcher m = BOUNDARY.matcher(doc);
        m.region(from, to);
        while (m.find()) {
            places++;
            if (!covered[m.start()]) {
                wrong++;
                System.out.println("no test names: .." + doc.substring(Math.max(from, m.start() - 60), Math.min(to, m.end() + 60)).replace('\n', ' ') + "..");
            }
        }
        System.out.println("SentencesTest: " + places + " places, " + named.size() + " sentences, " + wrong + " wrong");
        if (wrong != 0) {
            System.exit(1);
        }
    }
}
