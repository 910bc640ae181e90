/** Boundary cases of BRIDGES, promise 16, and of promise 29 on trees. */
public final class BoundsBridgeTest {
    private static final int NAME = 128 * 256;

    /** A BRIDGE with a HOST at each of its first PORTS; nothing else is HEARD there. */
    private static InternetHouse alone(int ports) {
        InternetHouse x = new InternetHouse();
        x.node(1);
        for (int i = 0; i < ports; i++) {
            x.node(0);
            x.line(i, 4 + 4 * i, 1, 255, 148);
        }
        return x;
    }

    private static void ranks() {
        Due.sentence("A BRIDGE has a RANK (0 to 255, 128 at first); its NAME: 256 times RANK, and its number.");
        InternetHouse x = new InternetHouse();
        for (int i = 0; i < 12; i++) {
            x.node(1);
        }
        Due.is("at first", NAME + 11, () -> x.bridge(47, 2));
        Due.argument("-1", () -> x.set(11, 1, -1, 0, 0));
        Due.argument("256", () -> x.set(11, 1, 256, 0, 0));
        x.set(11, 1, 0, 0, 0);
        Due.is("ROOT stays till it is worked out", NAME + 11, () -> x.bridge(47, 2));
        x.run(1);
        Due.is("RANK 0", 11, () -> x.bridge(47, 2));
        x.set(11, 1, 255, 0, 0);
        x.run(1);
        Due.is("RANK 255", 255 * 256 + 11, () -> x.bridge(47, 2));
        Due.sentence("ROLES are worked out anew behind each NOTICE that came in, and at CLOCK behind what is gone (ROOT and COST with them; at first, and when the BRIDGE goes down, its NAME as it is then, and 0).");
        x.set(11, 1, 7, 0, 0);
        Due.is("RANK alone changes nothing", 255 * 256 + 11, () -> x.bridge(47, 2));
        x.set(11, 0, 0, 0, 0);
        Due.is("when it goes down", 7 * 256 + 11, () -> x.bridge(47, 2));
        x.set(11, 1, 8, 0, 0);
        x.run(1);
        Due.is("no CLOCK when it is down", 7 * 256 + 11, () -> x.bridge(47, 2));
        Due.is("COST 0", 0, () -> x.bridge(47, 3));
        Due.sentence("A PORT has a COST (1 to 255, 10 at first).");
        InternetHouse y = alone(1);
        Due.argument("0", () -> y.set(0, 2, 0, 0, 0));
        Due.argument("256", () -> y.set(0, 2, 0, 256, 0));
        Due.argument("PORT 4", () -> y.set(0, 2, 4, 1, 0));
        Due.argument("PORT -1", () -> y.set(0, 2, -1, 1, 0));
        Wire.frame(y, 0, Wire.notice(100, 5, 300, 1, 0));
        Due.is("10 at first", 15, () -> y.bridge(0, 3));
        y.set(0, 2, 0, 255, 0);
        Due.is("COST is not worked out yet", 15, () -> y.bridge(0, 3));
        y.run(1);
        Due.is("255", 260, () -> y.bridge(0, 3));
        y.set(0, 2, 0, 1, 0);
        Wire.frame(y, 0, Wire.notice(100, 5, 300, 1, 0));
        Due.is("1, behind a NOTICE", 6, () -> y.bridge(0, 3));
    }

    private static void heard() {
        Due.sentence("a NOTICE with an AGE of at most 6 (others are nothing; so is one of another length) comes in its place");
        InternetHouse x = alone(1);
        Wire.frame(x, 0, Wire.notice(100, 5, 300, 1, 7));
        Due.is("AGE 7", NAME, () -> x.bridge(0, 2));
        byte[] body = Due.bytes(0, 100, 0, 5, 1, 44, 1, 0);
        Wire.frame(x, 0, Due.frame(255, 1, 1, Wire.cut(body, 7)));
        Due.is("7 bytes", NAME, () -> x.bridge(0, 2));
        Wire.frame(x, 0, Due.frame(255, 1, 1, Wire.cut(body, 9)));
        Due.is("9 bytes", NAME, () -> x.bridge(0, 2));
        Due.is("they ARRIVED", 3, () -> x.count(0, 1));
        Wire.frame(x, 0, Wire.notice(100, 5, 300, 1, 6));
        Due.is("AGE 6", 100, () -> x.bridge(0, 2));
        Due.sentence("if there is none, or if its VECTOR is not greater than that of it, or if both have the same NAME and PORT.");
        int[][] greater = {{101, 5, 300, 2}, {100, 6, 300, 2}, {100, 5, 301, 1}, {100, 5, 300, 2}};
        for (int[] v : greater) {
            Wire.frame(x, 0, Wire.notice(v[0], v[1], v[2], v[3], 0));
        }
        Due.is("greater ones: ROOT", 100, () -> x.bridge(0, 2));
        Due.is("greater ones: COST", 15, () -> x.bridge(0, 3));
        Wire.frame(x, 0, Wire.notice(100, 4, 999, 9, 0));
        Due.is("less", 14, () -> x.bridge(0, 3));
        Wire.frame(x, 0, Wire.notice(200, 9, 999, 9, 0));
        Due.is("greater of the same NAME and PORT", 200, () -> x.bridge(0, 2));
        Wire.frame(x, 0, Wire.notice(201, 9, 999, 8, 0));
        Due.is("of the same NAME alone", 200, () -> x.bridge(0, 2));
        Wire.frame(x, 0, Wire.notice(201, 9, 998, 9, 0));
        Due.is("of the same PORT alone", 200, () -> x.bridge(0, 2));
        Due.sentence("one is less by the first of these that is less.");
        Wire.frame(x, 0, Wire.notice(199, 65535, 65535, 255, 0));
        Due.is("a less ROOT, all else greater", 199, () -> x.bridge(0, 2));
        Due.is("COST of two bytes and 10", 65545, () -> x.bridge(0, 3));
        Due.sentence("At CLOCK one that was HEARD 8 UNITS ago or more is gone.");
        InternetHouse y = alone(1);
        y.run(3);
        Wire.frame(y, 0, Wire.notice(100, 5, 300, 1, 0));
        y.run(5);
        Wire.frame(y, 0, Wire.notice(100, 5, 300, 2, 0));
        Wire.frame(y, 0, Wire.notice(100, 5, 300, 1, 0));
        y.run(7);
        Due.is("HEARD anew by the same VECTOR: 7 UNITS", 100, () -> y.bridge(0, 2));
        y.run(1);
        Due.is("8 UNITS", NAME, () -> y.bridge(0, 2));
        Wire.frame(y, 0, Wire.notice(100, 5, 300, 1, 0));
        y.run(4);
        Wire.frame(y, 0, Wire.notice(100, 5, 300, 2, 0));
        y.run(4);
        Due.is("one that is nothing does not keep it", NAME, () -> y.bridge(0, 2));
    }

    private static void roots() {
        Due.sentence("for each PORT with a LINE and a NOTICE HEARD whose ROOT is below NAME, that NOTICE's with the PORT's COST more");
        InternetHouse x = alone(2);
        Wire.frame(x, 0, Wire.notice(NAME, 0, 1, 0, 0));
        Due.is("its own NAME as ROOT", 0, () -> x.bridge(0, 3));
        Due.is("none is the ROOT PORT; less is HEARD", 3, () -> x.bridge(0, 0));
        Wire.frame(x, 1, Wire.notice(NAME, 0, NAME + 1, 0, 0));
        Due.is("less than what is HEARD", 2, () -> x.bridge(1, 0));
        Wire.frame(x, 1, Wire.notice(NAME - 1, 7, NAME + 1, 0, 0));
        Due.is("1 below it", NAME - 1, () -> x.bridge(1, 2));
        Due.is("1 below it: ROOT PORT", 1, () -> x.bridge(1, 0));
        InternetHouse none = alone(1);
        Wire.frame(none, 1, Wire.notice(5, 5, 5, 0, 0));
        Due.is("a PORT without a LINE", NAME, () -> none.bridge(0, 2));
        Due.is("its ROLE", 0, () -> none.bridge(1, 0));
        Due.sentence("the least one (of several the PORT with the least number): its ROOT and COST;");
        InternetHouse y = alone(3);
        Wire.frame(y, 2, Wire.notice(100, 5, 300, 1, 0));
        Due.is("the only one", 1, () -> y.bridge(2, 0));
        Wire.frame(y, 1, Wire.notice(100, 5, 300, 1, 0));
        Due.is("the same at a lesser PORT", 1, () -> y.bridge(1, 0));
        Due.is("the greater PORT is not it any more", 3, () -> y.bridge(2, 0));
        y.set(0, 2, 1, 11, 0);
        y.run(1);
        Due.is("COST 1 more", 1, () -> y.bridge(2, 0));
        y.set(0, 2, 1, 10, 0);
        Wire.frame(y, 2, Wire.notice(100, 5, 300, 0, 0));
        Due.is("a lesser PORT told", 1, () -> y.bridge(2, 0));
        Wire.frame(y, 1, Wire.notice(100, 5, 299, 9, 0));
        Due.is("a lesser NAME told", 1, () -> y.bridge(1, 0));
        Due.sentence("ROLES of PORTS: 0 without a LINE; 1 the ROOT PORT; 2 DESIGNATED: none is HEARD there, or (ROOT, COST, NAME, PORT modulo 4) is less than the VECTOR HEARD; 3 BLOCKED.");
        InternetHouse z = alone(3);
        Wire.frame(z, 0, Wire.notice(100, 5, 50, 1, 0));
        Due.is("none is HEARD", 2, () -> z.bridge(1, 0));
        int[][] vectors = {{100, 16, 9, 9, 2}, {100, 15, NAME + 1, 0, 2}, {100, 15, NAME, 2, 2}, {100, 15, NAME, 1, 3},
            {100, 15, NAME, 0, 3}, {100, 15, NAME - 1, 9, 3}, {100, 14, NAME + 1, 9, 3}};
        for (int[] v : vectors) {
            InternetHouse u = alone(3);
            Wire.frame(u, 0, Wire.notice(100, 5, 50, 1, 0));
            Wire.frame(u, 1, Wire.notice(v[0], v[1], v[2], v[3], 0));
            Due.is("against " + v[0] + " " + v[1] + " " + v[2] + " " + v[3], v[4], () -> u.bridge(1, 0));
        }
    }

    private static void forwards() {
        Due.sentence("A PORT whose ROLE becomes 1 or 2 from 0 or 3 (0 at first) is NEW from then on; it FORWARDS when that is 4 UNITS ago or more, until its ROLE is 0 or 3.");
        InternetHouse x = alone(2);
        x.run(4);
        Due.is("ROLE 2 since 1", 2, () -> x.bridge(0, 0));
        Due.is("3 UNITS ago", 0, () -> x.bridge(0, 1));
        x.run(1);
        Due.is("4 UNITS ago", 1, () -> x.bridge(0, 1));
        Wire.frame(x, 0, Wire.notice(100, 5, 300, 1, 0));
        Due.is("from 2 to 1 it is not NEW", 1, () -> x.bridge(0, 1));
        Wire.frame(x, 1, Wire.notice(100, 4, 300, 2, 0));
        Due.is("ROOT PORT is the other one now", 3, () -> x.bridge(0, 0));
        Due.is("BLOCKED", 0, () -> x.bridge(0, 1));
        Wire.frame(x, 1, Wire.notice(100, 44, 300, 2, 0));
        Due.is("from 3 to 1", 1, () -> x.bridge(0, 0));
        Due.is("NEW", 0, () -> x.bridge(0, 1));
        x.run(3);
        Due.is("3 UNITS ago", 0, () -> x.bridge(0, 1));
        x.run(1);
        Due.is("4 UNITS ago", 1, () -> x.bridge(0, 1));
        x.set(0, 0, 0, 0, 0);
        Due.is("down", 0, () -> x.bridge(0, 1));
        x.set(0, 0, 1, 0, 0);
        x.run(4);
        Due.is("NEW again", 0, () -> x.bridge(0, 1));
        x.run(1);
        Due.is("4 UNITS ago", 1, () -> x.bridge(0, 1));
        Due.sentence("At CLOCK, then, if TIME is even, a NOTICE goes TO 255 to the ROW of each DESIGNATED PORT with a LINE (by their numbers)");
        InternetHouse y = alone(2);
        y.run(1);
        Due.is("odd", 0, () -> y.count(0, 0));
        y.run(1);
        Due.is("even: both", 2, () -> y.count(0, 0));
        Wire.frame(y, 0, Wire.notice(100, 5, 300, 1, 0));
        y.run(2);
        Due.is("not to the ROOT PORT", 2, () -> y.seen(0, 0, -2));
        Due.is("to the other", 4, () -> y.seen(1, 0, -2));
        Due.is("TO 255", 255, () -> y.seen(1, 0, 0));
        Due.sentence("with ROOT, COST, NAME, PORT, and as AGE 0 if there is no ROOT PORT, else 1 more than that HEARD there.");
        byte[] told = Wire.notice(100, 15, NAME, 1, 1);
        told[1] = 2;
        Due.is("bytes", 1, () -> java.util.Arrays.equals(Wire.cut(told, 11), Wire.cut(Wire.sent(y, 1, 0), 11)) ? 1 : 0);
        Due.is("no ROOT PORT: AGE", 0, () -> y.seen(0, 0, 10));
        Wire.frame(y, 0, Wire.notice(100, 5, 300, 1, 6));
        y.run(2);
        Due.is("6 HEARD", 7, () -> y.seen(1, 0, 10));
    }

    private static void learn(InternetHouse x, int port, int from, int to) {
        Wire.frame(x, port, Due.frame(to, from, 7, new byte[1]));
    }

    private static void learned() {
        Due.sentence("A FRAME (no NOTICE) that ARRIVES at a PORT that does not FORWARD is nothing.");
        InternetHouse x = alone(3);
        x.run(4);
        learn(x, 0, 5, 255);
        Due.is("3 UNITS", 0, () -> x.bridge(0, 4));
        x.run(1);
        learn(x, 0, 5, 255);
        Due.is("4 UNITS", 5, () -> x.bridge(0, 4));
        Due.sentence("Else, if FROM is 1 to 48, its ROW gets this PORT and TIME");
        int[] from = {0, 49, 255, 1, 48};
        for (int f : from) {
            learn(x, 0, f, 255);
        }
        Due.is("1", 1, () -> x.bridge(0, 4));
        Due.is("48", 48, () -> x.bridge(0, 6));
        Due.is("0, 49, 255 are not", 0, () -> x.bridge(0, 7));
        learn(x, 1, 48, 255);
        Due.is("it gets this PORT", 48, () -> x.bridge(1, 6));
        Due.is("it is not of the other one any more", 0, () -> x.bridge(0, 6));
        Due.sentence("(a new one, if there is none; with 12 that with the least time, of these the least LINK ADDRESS, goes first).");
        Due.sentence("LEARNED: at most 12 ROWS: a LINK ADDRESS, a PORT, a time.");
        InternetHouse y = alone(3);
        y.run(5);
        for (int i = 12; i > 0; i--) {
            learn(y, 0, 3 * i, 255);
        }
        Due.is("the first of 12", 3, () -> y.bridge(0, 4));
        Due.is("the last of 12", 36, () -> y.bridge(0, 15));
        y.run(1);
        learn(y, 0, 3, 255);
        learn(y, 0, 40, 255);
        Due.is("6 went, 3 has a later time", 3, () -> y.bridge(0, 4));
        Due.is("6 went", 9, () -> y.bridge(0, 5));
        Due.is("40", 40, () -> y.bridge(0, 15));
        Due.argument("a 13th ROW", () -> y.bridge(0, 16));
        Due.sentence("if TO is LEARNED not more than 30 UNITS ago: of that PORT alone (none, if it is the one where it came); else of all but the one where it came, by their numbers.");
        InternetHouse z = alone(3);
        z.run(5);
        learn(z, 0, 5, 255);
        Wire.runs(z, 30);
        int sent1 = z.count(0, 0);
        learn(z, 1, 9, 5);
        learn(z, 0, 9, 5);
        // at 36 a NOTICE goes to each PORT; at PORT 0 it waits for 37.
        z.run(2);
        Due.is("30 UNITS: to that PORT alone", 7, () -> z.seen(0, 1, 2));
        Due.is("not to the others, not back", sent1 + 4, () -> z.count(0, 0));
        InternetHouse late = alone(3);
        late.run(5);
        learn(late, 0, 5, 255);
        Wire.runs(late, 31);
        int sent2 = late.count(0, 0);
        learn(late, 1, 9, 5);
        late.run(1);
        Due.is("31 UNITS: to all but that one", 9, () -> late.seen(0, 0, 1));
        Due.is("31 UNITS: to all but that one", 9, () -> late.seen(2, 0, 1));
        Due.is("31 UNITS: not back", sent2 + 2, () -> late.count(0, 0));
        Due.sentence("When a PORT gets the ROLE 0 or 3 the LEARNED ROWS of it go.");
        learn(z, 2, 33, 255);
        learn(z, 1, 9, 255);
        Wire.frame(z, 2, Wire.notice(NAME, 0, 1, 0, 0));
        Due.is("BLOCKED", 3, () -> z.bridge(2, 0));
        Due.is("5 stays", 5, () -> z.bridge(0, 4));
        Due.is("9 stays", 9, () -> z.bridge(1, 5));
        Due.is("33 is gone", 0, () -> z.bridge(2, 6));
    }

    private static void calls() {
        Due.sentence("4 to 15) if it is of this PORT, else 0. IllegalStateException: no BRIDGE.");
        InternetHouse x = alone(1);
        Due.missing("PORT 8", () -> x.bridge(8, 0));
        Due.missing("PORT -1", () -> x.bridge(-1, 0));
        Due.missing("PORT before what", () -> x.bridge(8, 16));
        Due.argument("what -1", () -> x.bridge(0, -1));
        Due.argument("what 16", () -> x.bridge(0, 16));
        Due.argument("what before the kind", () -> x.bridge(4, 16));
        Due.state("a HOST", () -> x.bridge(4, 0));
        Due.is("no ROW", 0, () -> x.bridge(0, 15));
        Due.is("ROLE at first", 0, () -> x.bridge(3, 0));
        Due.sentence("3: how many sets of joined BRIDGES (UP, whole LINES) there are whose PORTS that FORWARD to each other are no tree.");
        InternetHouse y = new InternetHouse();
        Due.is("none at all", 0, () -> y.map(3, 0, 0));
        y.node(1);
        Due.is("one alone", 0, () -> y.map(3, 0, 0));
        for (int i = 1; i < 6; i++) {
            y.node(1);
        }
        y.line(0, 4, 1, 255, 148);
        Due.is("two that do not FORWARD yet", 1, () -> y.map(3, 0, 0));
        y.line(8, 12, 1, 255, 148);
        y.line(9, 13, 1, 255, 148);
        Due.is("two sets", 2, () -> y.map(3, 0, 0));
        Wire.runs(y, 20);
        Due.is("trees", 0, () -> y.map(3, 0, 0));
        y.quality(1, 6, 1);
        y.quality(2, 6, 1);
        Due.is("CUT: sets of one each", 0, () -> y.map(3, 0, 0));
        Wire.runs(y, 20);
        y.quality(1, 6, 0);
        y.quality(2, 6, 0);
        Due.is("both LINES are mended: a ring", 1, () -> y.map(3, 0, 0));
        y.set(3, 0, 0, 0, 0);
        Due.is("one is down: sets of one each", 0, () -> y.map(3, 0, 0));
    }

    public static void main(String[] args) {
        ranks();
        heard();
        roots();
        forwards();
        learned();
        calls();
        Due.end("BoundsBridgeTest");
    }
}
