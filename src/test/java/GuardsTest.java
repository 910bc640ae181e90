/** Promises 10 and 11 for FILTERS, what is REWRITTEN, TUNNELS, GROUPS; FILTER texts. */
public final class GuardsTest {
    private static final int A1 = Due.a(10, 0, 0, 1);
    private static final int A2 = Due.a(10, 0, 0, 2);
    private static final int B1 = Due.a(10, 0, 1, 1);
    private static final int B2 = Due.a(10, 0, 1, 2);
    private static final int G = Due.a(224, 0, 0, 5);

    private static InternetHouse chain() {
        InternetHouse x = new InternetHouse();
        x.node(0);
        x.node(2);
        x.node(0);
        x.line(0, 4, 1, 255, 148);
        x.line(5, 8, 1, 255, 148);
        x.address(0, A1, 24);
        x.address(4, A2, 24);
        x.address(5, B1, 24);
        x.address(8, B2, 24);
        x.route(0, 0, 0, A2, 1);
        x.route(2, 0, 0, B1, 1);
        return x;
    }

    private static long load(InternetHouse x, int n, int kind, String text) {
        Due.feed(x, text);
        return x.load(n, kind);
    }

    private static void filterTexts() {
        InternetHouse x = chain();
        x.node(1);
        Due.missing("NODE", () -> x.load(4, 0));
        Due.argument("kind", () -> x.load(0, 3));
        Due.argument("kind before BRIDGE", () -> x.load(3, -1));
        Due.state("BRIDGE", () -> x.load(3, 0));
        Due.state("POLICY at a HOST", () -> x.load(0, 1));
        Due.feed(x, "pass");
        Due.state("BRIDGE", () -> x.load(3, 2));
        Due.is("TAPE stays", 4, () -> x.end(4));
        Due.is("one", 1, () -> x.load(1, 0));
        Due.argument("TAPE is empty", () -> x.end(1));
        Due.is("none", 0, () -> x.load(1, 0));
        Due.is("all conditions", 1, () -> load(x, 1, 0,
            "refuse known at 3 port 0 65535 to 10.0.0.0/8 from 0.0.0.0/0 proto 255"));
        Due.is("empty LINES count", -4, () -> load(x, 1, 0, "pass\n\n  \nfoo"));
        Due.is("blanks", 2, () -> load(x, 1, 0, "  pass   proto  6 \n\n drop\n"));
        String[] bad = {
            "pas", "pass proto", "pass proto 256", "pass proto 6 proto 7", "pass from 10.0.0.1/24", "pass from 10.0.0.0",
            "pass from 10.0.0.0/33", "pass from 10.0.0/8", "pass from 256.0.0.0/8", "pass port 5", "pass port 6 5",
            "pass port 1 65536", "pass at 4", "pass known known", "pass unknown", "pass proto 0000000006", "pass proto 6\tat 1",
            "Pass", "drop refuse", "pass from 10.0.0.0/8 from 10.0.0.0/8", "pass xxxxxxxxxxxxxxxxxxxxxxxxxxxxxxxxxxxxxxxxx",
        };
        for (String b : bad) {
            Due.is(b, -2, () -> load(x, 1, 0, "pass\n" + b + "\nfoo"));
        }
        StringBuilder many = new StringBuilder();
        for (int i = 0; i < 12; i++) {
            many.append("drop\n");
        }
        Due.is("12", 12, () -> load(x, 1, 0, many.toString()));
        Due.is("13", -13, () -> load(x, 1, 0, many + "drop"));
        Due.is("leading noughts", 1, () -> load(x, 1, 0, "pass proto 000000006"));
    }

    private static void filters() {
        InternetHouse x = chain();
        load(x, 1, 0, "pass known\nrefuse proto 1 at 1\ndrop to 10.0.1.0/24 proto 17 port 5 6\npass");
        x.echo(2, A1, 0, 32);
        x.run(20);
        Due.is("REFUSED: UNREACHABLE", 3, () -> x.look(2, 13, 0, 1));
        Due.is("13", 13, () -> x.look(2, 13, 0, 2));
        Due.is("FILTERED", 1, () -> x.count(1, 5));
        x.echo(0, B2, 0, 32);
        x.run(20);
        Due.is("the ANSWER is KNOWN", 0, () -> x.look(0, 13, 0, 1));
        Due.is("FLOW of one's own", 1, () -> x.look(1, 10, 0, 0));
        Due.is("FROM", A1, () -> x.look(1, 10, 1, 1));
        Due.is("TO", B2, () -> x.look(1, 10, 1, 3));
        Due.is("port", 0, () -> x.look(1, 10, 1, 2));
        Due.missing("two FLOWS", () -> x.look(1, 10, 2, 0));
        int s = x.socket(0, 0, 9);
        int t = x.socket(2, 0, 5);
        int u = x.socket(2, 0, 7);
        x.connect(s, B2, 5);
        x.write(s);
        x.connect(s, B2, 7);
        x.write(s);
        x.run(10);
        Due.is("dropped", 0, () -> x.state(t, 2));
        Due.is("passed", 1, () -> x.state(u, 2));
        Due.is("FILTERED", 2, () -> x.count(1, 5));
        x.run(40);
        Due.inject(x, 5, Due.packet(1, 9, 0, 0, B2, A1, Due.control(0, 0, 0, 0, new byte[0])));
        Due.is("no more KNOWN", 3, () -> x.count(1, 5));
        Due.is("FLOWS stay", A1, () -> x.look(1, 10, 1, 1));
    }

    private static void rewritten() {
        InternetHouse x = chain();
        Due.argument("PORT", () -> x.set(1, 11, 4, 0, 0));
        Due.argument("PORT", () -> x.set(1, 11, -2, 0, 0));
        Due.state("HOST", () -> x.set(0, 11, 1, 0, 0));
        Due.is("none at first", -1, () -> x.look(1, 15, 0, 7));
        x.set(1, 11, 1, 0, 0);
        Due.is("OUTSIDE", 1, () -> x.look(1, 15, 0, 7));
        int s = x.socket(0, 0, 9);
        int t = x.socket(2, 0, 5);
        x.connect(s, B2, 5);
        Due.feed(x, "hi");
        x.write(s);
        x.run(14);
        Due.is("came", 8, () -> x.read(t, 9));
        Due.outIs("FROM the OUTSIDE ADDRESS and port 40000", x, "\n\0\1\1" + (char) 156 + "@hi");
        Due.is("PAIR", 17, () -> x.look(1, 11, 0, 0));
        Due.is("inner", A1, () -> x.look(1, 11, 0, 1));
        Due.is("its port", 9, () -> x.look(1, 11, 0, 2));
        Due.is("outer", 40000, () -> x.look(1, 11, 0, 3));
        Due.feed(x, "ho");
        x.write(s);
        x.run(6);
        Due.is("the same PAIR", 8, () -> x.read(t, 9));
        Due.outIs("the same PAIR", x, "\n\0\1\1" + (char) 156 + "@ho");
        x.connect(t, B1, 40000);
        Due.feed(x, "yes");
        x.write(t);
        x.run(10);
        Due.is("back", 9, () -> x.read(s, 9));
        Due.outIs("FROM the far HOST", x, "\n\0\1\2\0\5yes");
        x.echo(0, B2, 4, 32);
        x.run(12);
        Due.is("ECHO too", B2, () -> x.look(0, 13, 0, 3));
        Due.is("its own outer port", 40000, () -> x.look(1, 11, 1, 3));
        for (int i = 0; i < 9; i++) {
            Due.inject(x, 4, Due.packet(17, 9, 0, 0, A1, B2, Due.datagram(100 + i, 5, new byte[1])));
        }
        Due.is("8 PAIRS", 40006, () -> x.look(1, 11, 7, 3));
        Due.missing("8 PAIRS", () -> x.look(1, 11, 8, 3));
        Due.is("those without a PAIR are not counted", 2 + 1 + 2 + 6, () -> x.count(1, 8));
        x.run(40);
        x.run(11);
        Due.missing("old ones are gone", () -> x.look(1, 11, 0, 3));
        byte[] wrong = Due.packet(17, 9, 0, 0, A1, B2, Due.bytes(0, 9, 0, 5, 0, 9, 0, 0, 1));
        int before = x.count(2, 4);
        Due.inject(x, 4, wrong);
        x.run(10);
        Due.is("a wrong SUM stays wrong", before + 1, () -> x.count(2, 4));
    }

    private static void tunnels(int key) {
        // HOST 0 - ROUTER 1 - ROUTER 2 - HOST 3; the ROUTERS know the far NETS by TUNNELS alone.
        InternetHouse x = new InternetHouse();
        int c1 = Due.a(10, 0, 2, 1);
        int c2 = Due.a(10, 0, 2, 2);
        x.node(0);
        x.node(2);
        x.node(2);
        x.node(0);
        x.line(0, 4, 1, 255, 148);
        x.line(5, 8, 1, 255, 148);
        x.line(9, 12, 1, 255, 148);
        x.address(0, A1, 24);
        x.address(4, A2, 24);
        x.address(5, B1, 24);
        x.address(8, B2, 24);
        x.address(9, c1, 24);
        x.address(12, c2, 24);
        x.route(0, 0, 0, A2, 1);
        x.route(3, 0, 0, c1, 1);
        Due.argument("TUNNEL", () -> x.set(1, 12, 2, B2, key));
        Due.argument("FAR", () -> x.set(1, 12, 0, -1, key));
        Due.argument("KEY", () -> x.set(1, 12, 0, B2, 65536));
        x.route(1, Due.a(10, 0, 2, 0), 24, 1, 1);
        Due.is("no TUNNEL yet", -1, () -> x.way(1, 0, c2));
        x.set(1, 12, 1, B2, key);
        Due.is("TUNNEL 1", 256 + 201, () -> x.way(1, 0, c2));
        x.set(2, 12, 0, B1, key);
        x.route(2, Due.a(10, 0, 0, 0), 24, 0, 1);
        x.echo(0, c2, 10, 32);
        x.run(30);
        Due.is("answered", c2, () -> x.look(0, 13, 0, 3));
        Due.is("PROTOCOL", key == 0 ? 4 : 50, () -> x.seen(5, 0, 4));
        Due.is("18 more bytes, or 22", 18 + 18 + 8 + 10 + 5 + (key == 0 ? 0 : 4), () -> x.seen(5, 0, -1));
        if (key != 0) {
            Due.is("NUMBER 1", 1, () -> x.seen(5, 0, 22));
        }
        Due.is("map: not by a TUNNEL", -1, () -> x.map(0, 0, c2));
        x.capture(1, 1);
        x.echo(0, c2, 20, 32);
        x.run(8);
        x.capture(1, 2);
        byte[] f = new byte[x.octet(5)];
        for (int i = 0; i < f.length; i++) {
            f[i] = (byte) x.octet(6 + i);
        }
        int wrong = x.count(2, 4);
        Due.feed(x, f);
        x.inject(8);
        Due.is("the same again: WRONG with a KEY", wrong + (key == 0 ? 0 : 1), () -> x.count(2, 4));
        int w = x.count(1, 4);
        x.echo(0, c2, 100, 32);
        x.run(10);
        Due.is("18 + 8 + 100 and 22: fits only without a KEY", w, () -> x.count(1, 4));
        Due.inject(x, 4, Due.packet(17, 9, 0, 0, A1, c2, new byte[110]));
        x.run(5);
        Due.is("too long: WRONG", key == 0 ? w : w + 1, () -> x.count(1, 4));
        x.run(10);
        byte[] long1 = Due.packet(1, 9, 0, 64, B1, c2, new byte[8]);
        Due.inject(x, 5, Due.packet(1, 9, 0, 0, B2, B1, Due.control(3, 4, 60, 0, long1)));
        Due.is("PATH", c2, () -> x.look(1, 14, 0, 0));
        int before = x.count(3, 9);
        x.capture(1, 1);
        x.echo(1, c2, 60, 32);
        x.run(15);
        Due.is("an own PACKET goes into the TUNNEL", 1, () -> x.capture(1, 2) > 2 ? 1 : 0);
        int more = key == 0 ? 5 : 9;
        Due.is("in pieces: 40 bytes", 18 + 18 + 40 + more, () -> x.octet(5));
        Due.is("and 28", 18 + 18 + 28 + more, () -> x.octet(6 + 18 + 18 + 40 + more + 5));
        Due.is("JOINED", before + 1, () -> x.count(3, 9));
    }

    /** What is sent to FAR goes into the TUNNEL itself, in ever more pieces: TIME goes on for all that. */
    private static void endless() {
        InternetHouse x = chain();
        int far = Due.a(10, 9, 0, 1);
        x.set(1, 12, 0, far, 0);
        x.route(1, Due.a(10, 9, 0, 0), 24, 0, 1);
        x.echo(1, far, 50, 32);
        Due.is("longer than 148 once", 1, () -> x.count(1, 4));
        byte[] long1 = Due.packet(1, 9, 0, 64, B1, far, new byte[8]);
        Due.inject(x, 5, Due.packet(1, 9, 0, 0, B2, B1, Due.control(3, 4, 60, 0, long1)));
        Due.is("PATH", 60, () -> x.look(1, 14, 0, 1));
        x.echo(1, far, 50, 32);
        Due.is("TIME", 5, () -> x.run(5));
        x.echo(1, B2, 0, 32);
        x.run(10);
        Due.is("answered", B2, () -> x.look(1, 13, 0, 3));
    }

    private static void groups() {
        InternetHouse x = chain();
        Due.argument("no GROUP", () -> x.set(2, 16, A1, 1, 0));
        Due.argument("b", () -> x.set(2, 16, G, 2, 0));
        x.set(2, 16, G, 1, 0);
        x.run(6);
        Due.is("REPORT", 2, () -> x.seen(8, 0, 4));
        Due.is("TO the GROUP", 224, () -> x.seen(8, 0, 17));
        Due.is("23 bytes", 23 + 5, () -> x.seen(8, 0, -1));
        x.run(2);
        Due.is("MEMBERS: PORT", 1, () -> x.look(1, 12, 0, 0));
        Due.is("GROUP", G, () -> x.look(1, 12, 0, 1));
        Due.is("time", 8, () -> x.look(1, 12, 0, 2));
        int s = x.socket(0, 0, 9);
        int t = x.socket(2, 0, 5);
        x.connect(s, G, 5);
        Due.feed(x, "hi");
        x.write(s);
        x.run(10);
        Due.is("came", 8, () -> x.read(t, 9));
        Due.outIs("FROM", x, "\n\0\0\1\0\thi");
        x.set(2, 16, G, 0, 0);
        x.run(18);
        Due.missing("MEMBERS go", () -> x.look(1, 12, 0, 0));
        for (int i = 0; i < 4; i++) {
            x.set(0, 16, G + 10 + i, 1, 0);
        }
        Due.is("is in it already", 1, () -> x.set(0, 16, G + 10, 1, 0));
        Due.state("4 GROUPS", () -> x.set(0, 16, G, 1, 0));
        x.set(1, 16, G, 1, 0);
        Due.inject(x, 4, Due.packet(17, 1, 0, 0, A1, G, new byte[9]));
        Due.is("TAKEN by a ROUTER in it", 1, () -> x.count(1, 9));
        Due.is("GROUPS are not counted as passed on", 0, () -> x.count(1, 8));
    }

    public static void main(String[] args) {
        filterTexts();
        filters();
        rewritten();
        tunnels(0);
        tunnels(4711);
        endless();
        groups();
        Due.end("GuardsTest");
    }
}
