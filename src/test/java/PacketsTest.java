/** Promises 8, 9, 13, 17, 18 and what PACKETS do: FINDING, WAYS, pieces, CONTROL. */
public final class PacketsTest {
    private static final int A1 = Due.a(10, 0, 0, 1);
    private static final int A2 = Due.a(10, 0, 0, 2);
    private static final int B1 = Due.a(10, 0, 1, 1);
    private static final int B2 = Due.a(10, 0, 1, 2);

    /** HOST 0 - ROUTER 1 - HOST 2. */
    private static InternetHouse chain(int size) {
        InternetHouse x = new InternetHouse();
        x.node(0);
        x.node(2);
        x.node(0);
        x.line(0, 4, 1, 255, 148);
        x.line(5, 8, 1, 255, size);
        x.address(0, A1, 24);
        x.address(4, A2, 24);
        x.address(5, B1, 24);
        x.address(8, B2, 24);
        x.route(0, 0, 0, A2, 1);
        x.route(2, 0, 0, B1, 1);
        return x;
    }

    private static void addresses() {
        InternetHouse x = new InternetHouse();
        x.node(0);
        x.node(1);
        Due.missing("PORT", () -> x.address(8, A1, 24));
        Due.argument("bits", () -> x.address(0, A1, 32));
        Due.argument("bits", () -> x.address(0, A1, -1));
        Due.argument("0", () -> x.address(0, 0, 24));
        Due.argument("ALL", () -> x.address(0, -1, 24));
        Due.argument("GROUP", () -> x.address(0, Due.a(224, 0, 0, 1), 24));
        Due.argument("before the BRIDGE", () -> x.address(4, 0, 24));
        Due.state("BRIDGE", () -> x.address(4, A1, 24));
        Due.is("address", 1, () -> x.address(0, A1, 24));
        Due.argument("in its NET", () -> x.address(1, A2, 30));
        Due.argument("has it in its NET", () -> x.address(1, Due.a(10, 1, 0, 1), 8));
        Due.is("another NET", 1, () -> x.address(1, B1, 24));
        Due.is("PORT", 1, () -> x.look(0, 1, 1, 0));
        Due.is("ADDRESS", B1, () -> x.look(0, 1, 1, 1));
        Due.is("BITS", 24, () -> x.look(0, 1, 1, 2));
        Due.is("none any more", 1, () -> x.address(0, 0, 0));
        Due.is("first row now", 1, () -> x.look(0, 1, 0, 0));
        Due.missing("no second", () -> x.look(0, 1, 1, 0));
    }

    private static void routes() {
        InternetHouse x = chain(148);
        Due.missing("NODE", () -> x.route(9, 0, 0, A2, 1));
        Due.argument("bits", () -> x.route(0, 0, 33, A2, 1));
        Due.argument("other bits", () -> x.route(0, A1, 24, A2, 1));
        Due.argument("cost", () -> x.route(0, 0, 0, A2, 256));
        Due.argument("cost", () -> x.route(0, 0, 0, A2, -2));
        Due.is("way by the FIXED row", 256L * (A2 & 0xFFFFFFFFL), () -> x.way(0, 0, B2));
        Due.is("way of KIND 0", 256L * Due.a(10, 0, 0, 77), () -> x.way(0, 0, Due.a(10, 0, 0, 77)));
        Due.is("longer NET", 3, () -> {
            x.route(0, Due.a(10, 0, 1, 0), 24, Due.a(10, 0, 0, 3), 9);
            return x.way(0, 0, B2) / 256 & 255;
        });
        Due.is("rows", 3, () -> x.route(0, Due.a(10, 0, 1, 0), 24, Due.a(10, 0, 0, 4), 8));
        Due.is("least COST", 4, () -> x.way(0, 0, B2) / 256 & 255);
        x.route(0, Due.a(10, 0, 1, 0), 24, Due.a(10, 0, 0, 9), 8);
        // two of one COST, by NEXT: .4, .9; s is the sum of the bytes of FROM and TO.
        Due.is("s even: the first", 4, () -> x.way(0, 1, Due.a(10, 0, 1, 2)) / 256 & 255);
        Due.is("s odd: the second", 9, () -> x.way(0, 0, Due.a(10, 0, 1, 2)) / 256 & 255);
        Due.is("NEXT that has no WAY", 5, () -> x.route(0, Due.a(10, 0, 1, 0), 25, Due.a(11, 0, 0, 9), 0));
        Due.is("is none", 9, () -> x.way(0, 0, Due.a(10, 0, 1, 2)) / 256 & 255);
        Due.is("rows gone", 4, () -> x.route(0, Due.a(10, 0, 1, 0), 24, Due.a(10, 0, 0, 9), -1));
        for (int i = 4; i < 8; i++) {
            x.route(0, 0, 0, A2, 1);
        }
        Due.state("8 rows", () -> x.route(0, 0, 0, A2, 1));
        Due.is("none to go", 8, () -> x.route(0, 0, 0, A1, -1));
        Due.is("all of one NEXT", 3, () -> x.route(0, 0, 0, A2, -1));
        Due.is("no WAY", -1, () -> x.way(0, 0, Due.a(11, 0, 0, 1)));
        Due.missing("NODE", () -> x.way(7, 0, 0));
        x.node(1);
        Due.state("BRIDGE", () -> x.way(3, 0, 0));
        Due.state("BRIDGE", () -> x.route(3, 0, 0, A1, 1));
        x.quality(0, 6, 1);
        Due.is("a CUT LINE has no WAY", -1, () -> x.way(0, 0, A2));
    }

    private static void echoes() {
        InternetHouse x = chain(148);
        Due.missing("NODE", () -> x.echo(3, B2, 0, 1));
        Due.argument("bytes", () -> x.echo(0, B2, 101, 1));
        Due.argument("hops", () -> x.echo(0, B2, 0, 0));
        Due.argument("hops", () -> x.echo(0, B2, 0, 256));
        Due.is("first", 0, () -> x.echo(0, B2, 5, 32));
        Due.is("second", 1, () -> x.echo(0, B2, 5, 1));
        x.run(30);
        Due.is("HOPS were over", 1, () -> x.look(0, 13, 0, 0));
        Due.is("OVER", 11, () -> x.look(0, 13, 0, 1));
        Due.is("CODE 0", 0, () -> x.look(0, 13, 0, 2));
        Due.is("told by the ROUTER", A2, () -> x.look(0, 13, 0, 3));
        Due.is("answered", 0, () -> x.look(0, 13, 1, 0));
        Due.is("ANSWER", 0, () -> x.look(0, 13, 1, 1));
        Due.is("by the HOST", B2, () -> x.look(0, 13, 1, 3));
        Due.is("passed on: there and back", 2, () -> x.count(1, 8));
        Due.is("TAKEN", 2, () -> x.count(0, 9));
        Due.is("NAME is 2 now", 2, () -> x.look(0, 15, 0, 6));
        Due.is("ERRORS are back", 6, () -> x.look(1, 15, 0, 5));
        Due.is("FOUND", A2, () -> x.look(0, 0, 0, 1));
        Due.is("its LINK ADDRESS", 5, () -> x.look(0, 0, 0, 2));
        Due.is("of the ROUTER's second PORT", 1, () -> x.look(1, 0, 1, 0));
        x.echo(0, Due.a(12, 0, 0, 1), 0, 32);
        x.run(10);
        Due.is("no WAY at the ROUTER", 3, () -> x.look(0, 13, 2, 1));
        Due.is("CODE 0", 0, () -> x.look(0, 13, 2, 2));
        x.echo(0, Due.a(10, 0, 1, 9), 0, 32);
        x.run(36);
        Due.is("nobody there", 3, () -> x.look(0, 13, 3, 1));
        Due.is("CODE 1", 1, () -> x.look(0, 13, 3, 2));
        x.echo(2, B2, 3, 32);
        x.run(1);
        Due.missing("the ECHO comes in, its ANSWER waits INSIDE", () -> x.look(2, 13, 0, 0));
        x.run(1);
        Due.is("INSIDE", B2, () -> x.look(2, 13, 0, 3));
        x.route(2, 0, 0, B1, -1);
        x.echo(2, A1, 0, 32);
        x.run(1);
        Due.is("UNREACHABLE 0 of one's own", 3, () -> x.look(2, 13, 1, 1));
        x.set(0, 0, 0, 0, 0);
        Due.state("down", () -> x.echo(0, B2, 0, 1));
        Due.argument("first the numbers", () -> x.echo(0, B2, -1, 1));
    }

    private static void bytesOfAnEcho() {
        InternetHouse x = chain(148);
        x.echo(0, A2, 3, 9);
        x.run(5);
        byte[] data = Due.control(8, 0, 0, 3, Due.bytes(0, 1, 2));
        byte[] want = Due.frame(5, 1, 3, Due.packet(1, 9, 0, 0, A1, A2, data));
        for (int i = 0; i < want.length; i++) {
            int k = i;
            Due.is("byte " + k, want[k] & 255, () -> x.seen(0, 0, k));
        }
        Due.is("length", want.length, () -> x.seen(0, 0, -1));
    }

    private static void pieces() {
        InternetHouse x = chain(60);
        x.echo(0, B2, 100, 32);
        x.run(13);
        // 108 bytes of DATA in pieces of 40: 40, 40, 28.
        Due.is("last piece", 18 + 28 + 5, () -> x.seen(5, 0, -1));
        Due.is("its PLACE is 10 eights", 10, () -> x.seen(5, 0, 9));
        Due.is("first piece", 63, () -> x.seen(5, 2, -1));
        Due.is("MORE", 128, () -> x.seen(5, 2, 9));
        x.run(20);
        Due.is("JOINED, counted once", 1, () -> x.count(2, 9));
        Due.is("answered", 0, () -> x.look(0, 13, 0, 0));
        Due.is("no OVERLAPS", 0, () -> x.count(2, 6));
        byte[] d = new byte[16];
        Due.inject(x, 8, Due.packet(1, 9, 7, 128, A1, B2, d));
        Due.inject(x, 8, Due.packet(1, 9, 7, 129, A1, B2, d));
        Due.is("a byte that is there", 1, () -> x.count(2, 6));
        Due.inject(x, 8, Due.packet(1, 9, 8, 128, A1, B2, new byte[12]));
        Due.inject(x, 8, Due.packet(1, 9, 8, 16, A1, B2, new byte[3]));
        Due.is("beyond 130", 2, () -> x.count(2, 6));
        Due.inject(x, 8, Due.packet(1, 9, 9, 130, A1, B2, d));
        Due.inject(x, 8, Due.packet(1, 9, 9, 1, A1, B2, Due.bytes(1, 2, 3)));
        Due.is("a last one that ends before", 3, () -> x.count(2, 6));
        Due.inject(x, 8, Due.packet(1, 9, 10, 1, A1, B2, Due.bytes(1, 2, 3)));
        Due.inject(x, 8, Due.packet(1, 9, 10, 130, A1, B2, d));
        Due.is("beyond the end", 4, () -> x.count(2, 6));
        Due.inject(x, 8, Due.packet(17, 9, 11, 128, A1, B2, d));
        x.run(19);
        Due.missing("JOINING still there", () -> x.look(0, 13, 1, 0));
        int sent = x.count(2, 0);
        x.run(1);
        Due.is("OVER 1 of the piece of PLACE 0", sent + 1, () -> x.count(2, 0));
        Due.is("TYPE", 11, () -> x.seen(8, 0, 21));
        Due.is("CODE", 1, () -> x.seen(8, 0, 22));
        Due.is("26 bytes are quoted", 5 + 18 + 8 + 26, () -> x.seen(8, 0, -1));
    }

    private static void wholeOnes() {
        InternetHouse x = chain(60);
        Due.inject(x, 4, Due.packet(17, 9, 3, 64, A1, B2, new byte[60]));
        x.run(8);
        Due.is("UNREACHABLE", 3, () -> x.seen(4, 0, 21));
        Due.is("CODE 4", 4, () -> x.seen(4, 0, 22));
        Due.is("SIZE", 60, () -> x.seen(4, 0, 26));
        Due.is("HOPS as they are then", 8, () -> x.seen(4, 0, 3 + 18 + 8 + 3));
        Due.is("had a WAY", 1, () -> x.count(1, 8));
        Due.is("PATH", B2, () -> x.look(0, 14, 0, 0));
        Due.is("SIZE", 60, () -> x.look(0, 14, 0, 1));
        Due.missing("one", () -> x.look(0, 14, 1, 0));
        x.echo(0, B2, 100, 32);
        x.run(6);
        Due.is("own PACKETS are cut here", 18 + 28 + 5, () -> x.seen(0, 0, -1));
        long till = x.look(0, 14, 0, 2);
        for (int i = 0; i < 5; i++) {
            x.run(18);
        }
        Due.is("100 UNITS", till, () -> x.look(0, 14, 0, 2));
        x.run(9);
        Due.missing("gone", () -> x.look(0, 14, 0, 2));
    }

    private static void wrongOnes() {
        InternetHouse x = chain(148);
        byte[] p = Due.packet(17, 9, 3, 0, B2, A1, Due.datagram(1, 2, new byte[3]));
        Due.inject(x, 0, p);
        Due.is("right", 0, () -> x.count(0, 4));
        Due.is("TAKEN", 1, () -> x.count(0, 9));
        byte[] q = p.clone();
        q[8]++;
        Due.inject(x, 0, q);
        Due.is("SUM", 1, () -> x.count(0, 4));
        Due.inject(x, 0, new byte[17]);
        Due.is("short", 2, () -> x.count(0, 4));
        q = p.clone();
        q[0] = 68;
        Due.inject(x, 0, q);
        Due.is("first byte", 3, () -> x.count(0, 4));
        Due.inject(x, 0, java.util.Arrays.copyOf(p, p.length - 1));
        Due.is("LENGTH above what there is", 4, () -> x.count(0, 4));
        Due.inject(x, 0, java.util.Arrays.copyOf(p, p.length + 3));
        Due.is("what is behind LENGTH is left out", 4, () -> x.count(0, 4));
        Due.is("TAKEN", 2, () -> x.count(0, 9));
        q = Due.packet(17, 9, 3, 0, B2, A1, Due.bytes(0, 1, 0, 2, 0, 9, 0, 0, 0));
        Due.inject(x, 0, q);
        Due.is("SUM of a DATAGRAM", 5, () -> x.count(0, 4));
        Due.inject(x, 0, Due.packet(1, 9, 3, 0, B2, A1, Due.bytes(8, 0, 0)));
        Due.is("short CONTROL", 6, () -> x.count(0, 4));
        Due.inject(x, 0, Due.packet(17, 9, 3, 0, A2, B2, new byte[3]));
        x.run(5);
        Due.is("a HOST drops what is not for it", 3 + 1, () -> x.count(0, 9));
    }

    private static void finding() {
        InternetHouse x = chain(148);
        byte[] body = Due.join(Due.bytes(1, 40), Due.word(Due.a(10, 0, 0, 7)), Due.word(A1));
        Due.feed(x, Due.frame(255, 9, 2, body));
        x.inject(0);
        Due.is("KNOWN", 40, () -> x.look(0, 0, 0, 2));
        x.run(1);
        Due.is("ANSWER", 2, () -> x.seen(0, 0, 3));
        Due.is("TO the LINK ADDRESS as told", 40, () -> x.seen(0, 0, 0));
        Due.feed(x, Due.frame(255, 9, 2, Due.join(Due.bytes(1, 40), Due.word(A1), Due.word(A1))));
        x.inject(0);
        Due.is("DOUBLED", 1, () -> x.count(0, 7));
        Due.feed(x, Due.frame(255, 9, 2, Due.join(Due.bytes(2, 41), Due.word(Due.a(10, 0, 0, 8)), Due.word(A1))));
        x.inject(0);
        Due.missing("nobody waits for it", () -> x.look(0, 0, 1, 2));
        Due.feed(x, Due.frame(255, 9, 2, Due.join(Due.bytes(2, 42), Due.word(Due.a(10, 0, 0, 7)), Due.word(A1))));
        x.inject(0);
        Due.is("known already: changed", 42, () -> x.look(0, 0, 0, 2));
        for (int i = 0; i < 6; i++) {
            x.echo(0, Due.a(10, 0, 0, 100 + i), 0, 32);
        }
        x.run(3);
        Due.is("4 ADDRESSES are WAITED for", 1 + 4 - 1, () -> x.count(0, 0));
        x.run(1);
        Due.is("4 ASKS", 1 + 4, () -> x.count(0, 0));
        x.run(25);
        Due.is("3 ASKS each", 1 + 12, () -> x.count(0, 0));
        x.run(4);
        Due.is("4 were told", 1, () -> x.look(0, 13, 3, 2));
        Due.missing("4 were told", () -> x.look(0, 13, 4, 2));
        for (int i = 0; i < 5; i++) {
            x.echo(0, Due.a(10, 0, 0, 50), 0, 32);
        }
        Due.feed(x, Due.frame(255, 9, 2, Due.join(Due.bytes(2, 44), Due.word(Due.a(10, 0, 0, 50)), Due.word(A1))));
        x.inject(0);
        x.run(8);
        Due.is("an ASK and 3 that waited", 13 + 1 + 3, () -> x.count(0, 0));
        Due.is("the oldest were dropped", 10, () -> x.seen(0, 0, 26));
        Due.is("the oldest were dropped", 8, () -> x.seen(0, 2, 26));
        for (int i = 0; i < 9; i++) {
            Due.feed(x, Due.frame(255, 9, 2, Due.join(Due.bytes(1, 20 + i), Due.word(Due.a(10, 0, 0, 200 + i)), Due.word(A1))));
            x.inject(0);
        }
        Due.is("8 ROWS, the oldest went", 21, () -> x.look(0, 0, 0, 2));
        Due.missing("8 ROWS", () -> x.look(0, 0, 8, 2));
    }

    public static void main(String[] args) {
        addresses();
        routes();
        echoes();
        bytesOfAnEcho();
        pieces();
        wholeOnes();
        wrongOnes();
        finding();
        Due.end("PacketsTest");
    }
}
