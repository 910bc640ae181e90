/** Promise 16, the BRIDGES, and the part of 29 on trees. */
public final class BridgesTest {
    private static byte[] notice(int root, int cost, int name, int port, int age) {
        return Due.frame(255, 1, 1, Due.bytes(root >> 8, root, cost >> 8, cost, name >> 8, name, port, age));
    }

    private static void ring() {
        InternetHouse x = new InternetHouse();
        for (int i = 0; i < 3; i++) {
            x.node(1);
        }
        x.line(0, 4, 1, 255, 148);
        x.line(5, 8, 1, 255, 148);
        x.line(9, 1, 1, 255, 148);
        Due.is("ROLE at first", 0, () -> x.bridge(0, 0));
        Due.is("ROOT at first", 128 * 256 + 1, () -> x.bridge(4, 2));
        x.run(1);
        Due.is("DESIGNATED", 2, () -> x.bridge(0, 0));
        Due.is("no LINE", 0, () -> x.bridge(2, 0));
        x.run(3);
        Due.is("does not FORWARD yet", 0, () -> x.bridge(0, 1));
        x.run(1);
        Due.is("FORWARDS 4 UNITS later", 1, () -> x.bridge(0, 1));
        x.run(20);
        Due.is("ROOT", 128 * 256, () -> x.bridge(8, 2));
        Due.is("COST", 10, () -> x.bridge(8, 3));
        Due.is("ROOT PORT", 1, () -> x.bridge(4, 0));
        Due.is("DESIGNATED", 2, () -> x.bridge(5, 0));
        Due.is("BLOCKED", 3, () -> x.bridge(8, 0));
        Due.is("ROOT PORT", 1, () -> x.bridge(9, 0));
        Due.is("tree", 0, () -> x.map(3, 0, 0));
        x.set(1, 2, 0, 200, 0);
        x.run(10);
        Due.is("dear PORT: by the other BRIDGE", 1, () -> x.bridge(5, 0));
        Due.is("COST over both", 20, () -> x.bridge(5, 3));
        Due.is("BLOCKED now", 3, () -> x.bridge(4, 0));
        x.set(2, 1, 1, 0, 0);
        Due.is("RANK alone changes nothing yet", 128 * 256, () -> x.bridge(8, 2));
        x.run(20);
        Due.is("new ROOT", 256 + 2, () -> x.bridge(0, 2));
        x.set(2, 0, 0, 0, 0);
        Due.is("ROLE of one that is down", 0, () -> x.bridge(9, 0));
        Due.is("its ROOT is its NAME", 256 + 2, () -> x.bridge(9, 2));
        x.run(30);
        Due.is("ROOT without it", 128 * 256, () -> x.bridge(4, 2));
        Due.is("tree", 0, () -> x.map(3, 0, 0));
    }

    private static void notices() {
        InternetHouse x = new InternetHouse();
        x.node(1);
        x.node(0);
        x.line(0, 4, 1, 255, 148);
        x.run(6);
        Due.feed(x, notice(100, 5, 300, 1, 7));
        x.inject(0);
        Due.is("too old", 128 * 256, () -> x.bridge(0, 2));
        Due.feed(x, notice(100, 5, 300, 1, 6));
        x.inject(0);
        Due.is("ROOT of the NOTICE", 100, () -> x.bridge(0, 2));
        Due.is("its COST and the PORT's", 15, () -> x.bridge(0, 3));
        Due.is("ROOT PORT", 1, () -> x.bridge(0, 0));
        Due.feed(x, notice(100, 6, 300, 2, 0));
        x.inject(0);
        Due.is("greater of another PORT: nothing", 15, () -> x.bridge(0, 3));
        Due.feed(x, notice(100, 9, 300, 1, 0));
        x.inject(0);
        Due.is("greater of the same", 19, () -> x.bridge(0, 3));
        x.run(7);
        Due.is("7 UNITS", 100, () -> x.bridge(0, 2));
        x.run(1);
        Due.is("gone at 8", 128 * 256, () -> x.bridge(0, 2));
        Due.is("still FORWARDS", 1, () -> x.bridge(0, 1));
        Due.is("NOTICE sent", 1, () -> x.seen(0, 0, 2));
        Due.is("13 bytes", 13, () -> x.seen(0, 0, -1));
        Due.is("NAME", 128, () -> x.seen(0, 0, 7));
        Due.is("AGE", 0, () -> x.seen(0, 0, 10));
        Due.missing("PORT", () -> x.bridge(8, 0));
        Due.argument("what", () -> x.bridge(4, 16));
        Due.argument("what", () -> x.bridge(0, -1));
        Due.state("no BRIDGE", () -> x.bridge(4, 0));
    }

    private static void learning() {
        InternetHouse x = new InternetHouse();
        x.node(1);
        for (int i = 1; i < 5; i++) {
            x.node(0);
            x.line(i - 1, 4 * i, 1, 255, 148);
        }
        Due.feed(x, Due.frame(9, 5, 3, new byte[4]));
        x.inject(0);
        x.run(5);
        Due.is("nothing before it FORWARDS", 0, () -> x.bridge(0, 4));
        Due.feed(x, Due.frame(9, 5, 3, new byte[4]));
        x.inject(0);
        Due.is("LEARNED", 5, () -> x.bridge(0, 4));
        Due.is("of another PORT", 0, () -> x.bridge(1, 4));
        x.run(2);
        Due.is("to all others", 3, () -> x.seen(1, 0, 2));
        Due.is("to all others", 3, () -> x.seen(3, 0, 2));
        Due.is("not back", 1, () -> x.seen(0, 0, 2));
        Due.feed(x, Due.frame(5, 9, 7, new byte[4]));
        x.inject(1);
        x.run(1);
        Due.is("to the LEARNED PORT", 7, () -> x.seen(0, 0, 2));
        Due.is("not to others", 1, () -> x.seen(2, 0, 2) == 7 ? 0 : 1);
        Due.is("by LINK ADDRESSES", 9, () -> x.bridge(1, 5));
        Due.feed(x, Due.frame(9, 49, 7, new byte[4]));
        x.inject(0);
        Due.is("49 is not LEARNED", 0, () -> x.bridge(0, 6));
        for (int i = 10; i < 20; i++) {
            Due.feed(x, Due.frame(255, i, 7, new byte[1]));
            x.inject(2);
        }
        Due.is("12 ROWS", 9, () -> x.bridge(1, 5));
        Due.feed(x, Due.frame(255, 40, 7, new byte[1]));
        x.inject(2);
        Due.is("the oldest went", 0, () -> x.bridge(0, 4));
        Due.is("others stay", 9, () -> x.bridge(1, 4));
        x.run(31);
        Due.feed(x, Due.frame(9, 30, 7, new byte[4]));
        x.inject(0);
        x.run(1);
        Due.is("too long ago: to all", 30, () -> x.seen(2, 0, 1) == 30 ? 30 : x.seen(2, 1, 1));
    }

    private static void noTree() {
        InternetHouse x = new InternetHouse();
        x.node(1);
        x.node(1);
        x.line(0, 4, 1, 255, 148);
        Due.is("before anything FORWARDS", 1, () -> x.map(3, 0, 0));
        x.run(10);
        Due.is("a tree", 0, () -> x.map(3, 0, 0));
        x.quality(0, 6, 1);
        Due.is("two sets of one each", 0, () -> x.map(3, 0, 0));
    }

    public static void main(String[] args) {
        ring();
        notices();
        learning();
        noTree();
        Due.end("BridgesTest");
    }
}
