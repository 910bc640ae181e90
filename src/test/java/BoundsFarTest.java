/** Boundary cases at the far ends: PORT 3, NODE 11, AREA 3, the last of a full ROW; and PACKETS byte for byte. */
public final class BoundsFarTest {
    private static final int A1 = Wire.A1;
    private static final int A2 = Wire.A2;
    private static final int A9 = Due.a(10, 0, 0, 9);
    private static final int B1 = Wire.B1;
    private static final int B2 = Wire.B2;
    private static final byte[] NONE = new byte[0];

    private static int net(int i) {
        return Due.a(20, i, 0, 0);
    }

    private static int c(int port, int host) {
        return Due.a(10, 0, port, host);
    }

    /** Whether a PACKET is in one of the latest 4 FRAMES of a PORT. */
    private static int among(InternetHouse x, int port, byte[] packet) {
        int many = 0;
        for (int i = 0; i < 4; i++) {
            byte[] f = Wire.sent(x, port, i);
            many += java.util.Arrays.equals(packet, java.util.Arrays.copyOfRange(f, 3, f.length - 2)) ? 1 : 0;
        }
        return many;
    }

    private static void same(String what, byte[] got, byte[] want) {
        Due.said(what, java.util.Arrays.toString(got), java.util.Arrays.toString(want));
    }

    /** A NODE 0 of a kind with HOSTS 1 to 4 at its PORTS 0 to 3, NETS 10.0.p.0 / 24, all of them KNOWN to it. */
    private static InternetHouse wheel(int kind) {
        InternetHouse x = new InternetHouse();
        x.node(kind);
        for (int p = 0; p < 4; p++) {
            x.node(0);
            x.line(p, 4 + 4 * p, 1, 255, 148);
            x.address(p, c(p, 1), 24);
            x.address(4 + 4 * p, c(p, 2), 24);
            x.set(1 + p, 0, 0, 0, 0);
            Wire.known(x, p, c(p, 1), c(p, 2), 5 + 4 * p);
        }
        x.run(2);
        return x;
    }

    private static byte[] packet(InternetHouse x, int port) {
        byte[] f = Wire.sent(x, port, 0);
        return java.util.Arrays.copyOfRange(f, 3, f.length - 2);
    }

    private static byte[] from(int cls, byte[] packet) {
        byte[] p = packet.clone();
        p[0] = (byte) (64 + cls);
        p[8] = 0;
        p[9] = 0;
        int s = Due.sum(Wire.cut(p, 18));
        p[8] = (byte) (s >> 8);
        p[9] = (byte) s;
        return p;
    }

    private static void bytes() {
        Due.sentence("NAME is the NODE's (0 at first, 1 more with each, 16 bits), HOPS 32, CLASS 0, PIECE 0, FROM the ADDRESS of the PORT by which it goes");
        InternetHouse x = wheel(2);
        x.socket(0, 0, 9);
        x.connect(0, c(3, 2), 5);
        x.write(0);
        x.run(1);
        same("DATAGRAM", packet(x, 3), Due.packet(17, 32, 0, 0, c(3, 1), c(3, 2), Due.datagram(9, 5, NONE)));
        Due.inject(x, 3, Due.packet(1, 9, 0, 0, c(3, 2), c(3, 1), Due.control(8, 0, 1, 2, NONE)));
        x.run(1);
        same("ANSWER", packet(x, 3), Due.packet(1, 32, 1, 0, c(3, 1), c(3, 2), Due.control(0, 0, 1, 2, NONE)));
        Due.inject(x, 3, Due.packet(17, 9, 0, 0, c(3, 2), c(0, 1), Due.datagram(9, 7, NONE)));
        x.run(1);
        byte[] lost = Due.packet(17, 9, 0, 0, c(3, 2), c(0, 1), Due.datagram(9, 7, NONE));
        same("UNREACHABLE 3", packet(x, 3), Due.packet(1, 32, 2, 0, c(3, 1), c(3, 2), Due.control(3, 3, 0, 0, lost)));
        Due.sentence("the NUMBERS the SIZE that did not fit (or 0) and 0, the first 26 bytes of the PACKET (as it is then)");
        byte[] over = Due.packet(99, 1, 0, 0, c(3, 2), A9, new byte[9]);
        Due.inject(x, 3, over);
        x.run(1);
        same("OVER 0", packet(x, 3), Due.packet(1, 32, 3, 0, c(3, 1), c(3, 2), Due.control(11, 0, 0, 0, Wire.cut(over, 26))));
        Due.inject(x, 3, Due.packet(99, 9, 0, 0, c(3, 2), net(1), new byte[9]));
        x.run(1);
        byte[] less = Wire.cut(Due.packet(99, 8, 0, 0, c(3, 2), net(1), new byte[9]), 26);
        same("UNREACHABLE 0", packet(x, 3), Due.packet(1, 32, 4, 0, c(3, 1), c(3, 2), Due.control(3, 0, 0, 0, less)));
        x.quality(2, 5, 60);
        Due.inject(x, 3, Due.packet(99, 9, 0, 64, c(3, 2), c(2, 2), new byte[50]));
        x.run(1);
        byte[] whole = Wire.cut(Due.packet(99, 8, 0, 64, c(3, 2), c(2, 2), new byte[50]), 26);
        same("UNREACHABLE 4", packet(x, 3), Due.packet(1, 32, 5, 0, c(3, 1), c(3, 2), Due.control(3, 4, 60, 0, whole)));
        Wire.load(x, 0, 0, "refuse proto 77");
        byte[] refused = Due.packet(77, 9, 0, 0, c(3, 2), c(2, 2), new byte[50]);
        Due.inject(x, 3, refused);
        x.run(1);
        same("UNREACHABLE 13", packet(x, 3), Due.packet(1, 32, 6, 0, c(3, 1), c(3, 2), Due.control(3, 13, 0, 0, Wire.cut(refused, 26))));
        byte[] piece = Due.packet(99, 9, 5, 128, c(3, 2), c(3, 1), new byte[8]);
        Due.inject(x, 3, piece);
        x.run(20);
        same("OVER 1", packet(x, 3), Due.packet(1, 32, 7, 0, c(3, 1), c(3, 2), Due.control(11, 1, 0, 0, piece)));
        byte[] sought = Due.packet(99, 9, 5, 0, c(3, 2), c(2, 9), new byte[8]);
        Due.inject(x, 3, sought);
        x.run(24);
        byte[] hop = Due.packet(99, 8, 5, 0, c(3, 2), c(2, 9), new byte[8]);
        same("UNREACHABLE 1", packet(x, 3), Due.packet(1, 32, 8, 0, c(3, 1), c(3, 2), Due.control(3, 1, 0, 0, hop)));
        Due.sentence("unless RST is set, a RST goes back (WINDOW 0, FROM its TO, if that is an ADDRESS of the NODE)");
        int[] to = {c(3, 1), c(1, 1), -1};
        int[] back = {c(3, 1), c(1, 1), c(3, 1)};
        for (int i = 0; i < 3; i++) {
            byte[] seg = Due.summed(Due.join(Wire.half(7), Wire.half(80), Due.word(5), Due.word(6), Due.bytes(16, 0), Wire.half(9), Wire.half(0)), 16);
            Due.inject(x, 3, Due.packet(6, 9, 0, 64, c(3, 2), to[i], seg));
            x.run(1);
            byte[] rst = Due.summed(Due.join(Wire.half(80), Wire.half(7), Due.word(6), Due.word(0), Due.bytes(4, 0), Wire.half(0), Wire.half(0)), 16);
            same("RST " + i, packet(x, 3), Due.packet(6, 32, 9 + i, 64, back[i], c(3, 2), rst));
        }
        Due.sentence("their PACKETS have CLASS 3 and HOPS 1, FROM the PORT's ADDRESS, are PASSED on a PORT TO ALL, or TO a neighbour's ADDRESS there,");
        InternetHouse y = wheel(2);
        y.set(0, 6, 1, 0, 0);
        y.set(0, 7, 3, 3, 0);
        y.run(2);
        same("HELLO", packet(y, 3), from(3, Due.packet(89, 1, 3, 0, c(3, 1), -1, Due.bytes(1, 3, 0))));
        InternetHouse z = wheel(2);
        z.set(0, 5, 1, 0, 0);
        z.run(8);
        byte[] all = NONE;
        for (int p = 0; p < 4; p++) {
            all = Due.join(all, Due.word(c(p, 0)), Due.bytes(24, 1));
        }
        same("DISTANCE on PORT 3", packet(z, 3), from(3, Due.packet(9, 1, 3, 0, c(3, 1), -1, all)));
        Due.sentence("PACKETS to a PEER are SENT as own ones by THE WAY to it (CLASS 3)");
        InternetHouse o = wheel(2);
        o.set(0, 8, 65535, 0, 0);
        o.set(0, 9, c(3, 2), 5, 0);
        o.run(4);
        same("OPEN 0", packet(o, 3), from(3, Due.packet(79, 32, 0, 0, c(3, 1), c(3, 2), Wire.open(0, 65535, 0))));
        o.run(6);
        same("ASKED: OPEN 0 again at 12", packet(o, 3), from(3, Due.packet(79, 32, 1, 0, c(3, 1), c(3, 2), Wire.open(0, 65535, 0))));
        InternetHouse g = wheel(2);
        Due.inject(g, 3, Due.packet(2, 1, 0, 0, c(3, 2), Wire.GROUP, Due.join(Due.bytes(1), Due.word(Wire.GROUP))));
        byte[] p = Due.packet(99, 9, 777, 96, c(0, 2), Wire.GROUP, new byte[3]);
        Due.inject(g, 0, p);
        g.run(1);
        Due.sentence("with HOPS 1 less, by each other PORT with an ADDRESS and a whole LINE and MEMBERS of it, or a NEIGHBOUR of LINK;");
        same("PASSED by PORT 3", packet(g, 3), Due.packet(99, 8, 777, 96, c(0, 2), Wire.GROUP, new byte[3]));
    }

    private static void takes() {
        Due.sentence("TAKE is sent (with ADDRESS, SERVER as told): TAKES.");
        InternetHouse x = new InternetHouse();
        x.node(0);
        x.node(0);
        x.line(3, 4, 1, 255, 148);
        x.set(1, 0, 0, 0, 0);
        x.set(0, 14, 3, 1, 0);
        Due.sentence("NUMBER (0 before) becomes a DRAW");
        Due.inject(x, 3, Wire.lease(2, 3, 1, A1, 24, 100, A2, A9));
        x.run(1);
        Due.is("NUMBER 1: a WANT", 1, () -> Wire.data(x, 3, 0)[0]);
        InternetHouse y = new InternetHouse();
        y.node(0);
        y.node(0);
        y.line(3, 4, 1, 255, 148);
        y.set(1, 0, 0, 0, 0);
        y.set(0, 14, 3, 1, 0);
        Due.inject(y, 3, Wire.lease(2, 3, 0, A1, 24, 100, A2, A9));
        y.run(1);
        byte[] take = Due.join(Due.bytes(3, 3, 0, 0), Due.word(A1), Due.bytes(0, 0, 0), Due.word(A2), Due.word(0));
        same("NUMBER 0: TAKE", packet(y, 3), Due.packet(67, 1, 0, 0, 0, -1, take));
        Due.sentence("GIVEN with its CLIENT and NUMBER in TAKES or HAS");
        Due.inject(y, 3, Wire.lease(5, 3, 0, A1, 24, 100, A2, A9));
        y.run(1);
        Due.is("NO in TAKES: a WANT", 1, () -> Wire.data(y, 3, 0)[0]);
        int number = Wire.u16(Wire.data(y, 3, 0), 2);
        Due.inject(y, 3, Wire.lease(5, 3, number, A1, 24, 100, A2, A9));
        Due.inject(y, 3, Wire.lease(4, 3, number, A1, 24, 100, A2, A9));
        y.run(5);
        Due.is("NO, GIVEN in WANTS: nothing", 2, () -> y.count(0, 0));
        Due.inject(y, 3, Wire.lease(2, 3, number, A1, 24, 100, A2, A9));
        Due.inject(y, 3, Wire.lease(4, 3, number, A1, 24, 100, A2, A9));
        Due.sentence("a FIXED row 0 / 0 by GATE, COST 1");
        y.route(0, 0, 0, A1 + 4, 1);
        int even = 0;
        Due.is("with another of COST 1", 256L * (A1 + 4) + 3, () -> y.way(0, even, 2));
        Due.is("with another of COST 1", 256L * A9 + 3, () -> y.way(0, even, 1));
        y.route(0, 0, 0, A1 + 5, 0);
        Due.is("COST 0 is less", 256L * (A1 + 5) + 3, () -> y.way(0, even, 2));
        Due.is("COST 0 is less", 256L * (A1 + 5) + 3, () -> y.way(0, even, 1));
        Due.sentence("8 who has what is LENT (PORT, ADDRESS): PORT, ADDRESS, CLIENT, till when;");
        InternetHouse z = new InternetHouse();
        z.node(0);
        z.node(0);
        z.line(3, 4, 1, 255, 148);
        z.set(1, 0, 0, 0, 0);
        z.address(3, -1000, 24);
        z.address(2, A1, 24);
        z.set(0, 13, 3, -999, 16500);
        z.set(0, 13, 2, A2, 1010);
        Due.inject(z, 3, Wire.lease(1, 0, 9, 0, 0, 0, 0, 0));
        z.run(1);
        Due.is("a greater ADDRESS than the greatest int", -999, () -> Wire.u32(Wire.data(z, 3, 0), 4));
        for (int i = 0; i < 16; i++) {
            Due.inject(z, 3, Wire.lease(3, i, 9, -984 - i, 0, 0, -1000, 0));
        }
        Due.inject(z, 2, Wire.lease(3, 20, 9, A2, 0, 0, A1, 0));
        Due.is("17 ROWS", 17, () -> Wire.rows(z, 0, 8));
        Due.is("PORT 2", 2, () -> z.look(0, 8, 0, 0));
        Due.is("PORT 3", 3, () -> z.look(0, 8, 16, 0));
        Due.is("the least", -999, () -> z.look(0, 8, 1, 1));
        Due.is("the greatest", -984, () -> z.look(0, 8, 16, 1));
        Due.is("its CLIENT", 0, () -> z.look(0, 8, 16, 2));
        Due.is("till when", 501, () -> z.look(0, 8, 16, 3));
        z.set(0, 13, 3, -999, 0);
        Due.is("none: its ADDRESS may be set", 1, () -> z.address(3, -1000, 24));
    }

    private static void ports() {
        Due.sentence("At CLOCK, of each PORT (by number) for each ADDRESS that is WAITED for (the first made first): 8 UNITS since the latest ASK");
        InternetHouse x = wheel(0);
        for (int i = 0; i < 4; i++) {
            x.echo(0, c(3, 50 + i), 0, 32);
        }
        x.run(8);
        Due.is("4 ASKS at PORT 3, then 4 more", 1 + 4 + 1, () -> x.count(0, 0) - 3);
        x.run(18);
        for (int i = 0; i < 4; i++) {
            int k = i;
            Due.is("told in order", k, () -> x.look(0, 13, k, 0));
        }
        Due.sentence("another PORT of this NODE has a NET that has it, or an ADDRESS in its NET.");
        Due.argument("PORT 3 has it", () -> x.address(0, c(3, 7), 24));
        Due.sentence("and of no other PORT of the NODE, else nothing)");
        InternetHouse y = new InternetHouse();
        y.node(0);
        y.node(0);
        y.line(0, 4, 1, 255, 148);
        y.address(3, A9, 24);
        y.set(0, 14, 0, 1, 0);
        Due.inject(y, 0, Wire.lease(2, 0, 0, A9, 24, 100, A2, 0));
        Due.inject(y, 0, Wire.lease(4, 0, 0, A9, 24, 100, A2, 0));
        Due.is("PORT 3 has it", 1, () -> Wire.rows(y, 0, 1));
        Due.is("PORT 3's is the least with one", A9, () -> {
            y.echo(0, net(1), 0, 32);
            y.run(1);
            return y.look(0, 13, 0, 3);
        });
        Due.sentence("BRIDGES. A BRIDGE has a RANK");
        InternetHouse b = new InternetHouse();
        for (int i = 0; i < 12; i++) {
            b.node(i == 11 ? 1 : 0);
        }
        b.line(47, 0, 1, 255, 148);
        b.line(44, 4, 1, 255, 148);
        b.run(6);
        Due.is("a NOTICE on PORT 47", 6, () -> b.seen(47, 0, -2));
        Due.is("PORT 3", 3, () -> b.seen(47, 0, 9));
        b.address(0, A1, 24);
        b.address(4, A2, 24);
        Due.is("2 LINES over PORT 47", 2, () -> b.map(0, 0, A2));
        Due.is("2 LINES back", 2, () -> b.map(0, 1, A1));
        Due.is("a tree", 0, () -> b.map(3, 0, 0));
        Due.sentence("REWRITTEN: a ROUTER may have an OUTSIDE PORT with an ADDRESS.");
        InternetHouse r = wheel(2);
        r.set(0, 11, 3, 0, 0);
        byte[] seg = Due.summed(Due.join(Wire.half(7), Wire.half(80), Due.word(5), Due.word(6), Due.bytes(16, 0), Wire.half(9), Wire.half(0)), 16);
        Due.inject(r, 0, Due.packet(6, 9, 5, 64, c(0, 2), c(3, 2), seg));
        r.run(1);
        byte[] out = Due.summed(Due.join(Wire.half(40000), Wire.half(80), Due.word(5), Due.word(6), Due.bytes(16, 0), Wire.half(9), Wire.half(0)), 16);
        same("a STREAM of 18 bytes", packet(r, 3), Due.packet(6, 8, 5, 64, c(3, 1), c(3, 2), out));
        byte[] bad = seg.clone();
        bad[17] ^= 1;
        byte[] kept = out.clone();
        kept[16] = bad[16];
        kept[17] = bad[17];
        Due.inject(r, 0, Due.packet(6, 9, 5, 64, c(0, 2), c(3, 2), bad));
        r.run(1);
        same("a wrong SUM stays as it is", packet(r, 3), Due.packet(6, 8, 5, 64, c(3, 1), c(3, 2), kept));
        byte[] eight = Due.datagram(7, 5, NONE);
        Due.inject(r, 0, Due.packet(17, 9, 5, 0, c(0, 2), c(3, 2), eight));
        r.run(1);
        same("a DATAGRAM of 8 bytes", packet(r, 3), Due.packet(17, 8, 5, 0, c(3, 1), c(3, 2), Due.datagram(40000, 5, NONE)));
        Due.inject(r, 0, Due.packet(1, 9, 5, 0, c(0, 2), c(3, 2), Due.control(8, 0, 7, 0, NONE)));
        r.run(1);
        same("an ECHO of 8 bytes", packet(r, 3), Due.packet(1, 8, 5, 0, c(3, 1), c(3, 2), Due.control(8, 0, 40000, 0, NONE)));
        Due.inject(r, 3, Due.packet(1, 9, 5, 0, c(3, 2), c(3, 1), Due.control(0, 0, 40000, 0, NONE)));
        r.run(1);
        same("its ANSWER", packet(r, 0), Due.packet(1, 8, 5, 0, c(3, 2), c(0, 2), Due.control(0, 0, 7, 0, NONE)));
        r.set(0, 11, 2, 0, 0);
        r.address(2, 0, 0);
        Due.inject(r, 0, Due.packet(17, 9, 5, 0, c(0, 2), c(3, 2), eight));
        r.run(1);
        same("an OUTSIDE PORT without an ADDRESS", packet(r, 3), Due.packet(17, 8, 5, 0, c(0, 2), c(3, 2), eight));
    }

    private static void filters() {
        Due.sentence("The first RULE all of whose CONDITIONS hold says what is done");
        InternetHouse x = Wire.pair(0);
        Wire.load(x, 0, 0, "drop proto 0\ndrop at 0 proto 1\ndrop proto 17 port 0 0");
        Due.inject(x, 0, Due.packet(99, 9, 0, 0, A2, A1, NONE));
        Due.inject(x, 1, Due.packet(1, 9, 0, 0, A2, A1, Due.summed(new byte[8], 2)));
        Due.inject(x, 0, Due.packet(17, 9, 0, 0, A2, A1, Due.bytes(0, 0, 0, 1)));
        Due.inject(x, 0, Due.packet(6, 9, 0, 0, A2, A1, Due.bytes(0, 0, 0, 0)));
        Due.is("proto 0, at 0, port 0 do not hold for others", 0, () -> x.count(0, 5));
        Due.inject(x, 0, Due.packet(0, 9, 0, 0, A2, A1, NONE));
        Due.inject(x, 0, Due.packet(1, 9, 0, 0, A2, A1, Due.summed(new byte[8], 2)));
        Due.inject(x, 0, Due.packet(17, 9, 0, 0, A2, A1, Due.bytes(0, 0, 0, 0)));
        Due.is("they hold for these", 3, () -> x.count(0, 5));
        Due.sentence("A PACKET is KNOWN if there is a FLOW with its ends, either way round, not more than 40 UNITS old.");
        for (int units = 40; units < 42; units++) {
            InternetHouse y = Wire.pair(0);
            Wire.load(y, 0, 0, "pass known\npass proto 17 from 10.0.0.2/32\ndrop");
            Wire.runs(y, 33);
            Due.inject(y, 0, Due.packet(17, 9, 0, 0, A2, A1, Due.bytes(0, 5, 0, 6)));
            Wire.runs(y, units);
            Due.inject(y, 0, Due.packet(17, 9, 0, 0, A1, A2, Due.bytes(0, 6, 0, 5)));
            int want = units == 40 ? 0 : 1;
            Due.is(units + " UNITS", want, () -> y.count(0, 5));
        }
        Due.sentence("FLOWS, at most 12 in a NODE with RULES");
        InternetHouse none = Wire.pair(0);
        none.echo(0, A2, 0, 32);
        Due.is("without RULES: none of its own", 0, () -> Wire.rows(none, 0, 10));
        Due.sentence("if shorter than 8, of another length, or with a wrong SUM;");
        InternetHouse s = Wire.pair(0);
        s.socket(0, 0, 5);
        Due.inject(s, 0, Due.packet(17, 9, 0, 0, A2, A1, Due.join(Wire.half(65523), Wire.half(5), Wire.half(7), Due.bytes(0))));
        Due.is("7 bytes whose SUM would be 0", 1, () -> s.count(0, 4));
        Due.is("did not come", 0, () -> s.state(0, 2));
    }

    private static void joinings() {
        Due.sentence("At CLOCK each JOINING (the first begun first) begun 20 UNITS ago or more is dropped; if the piece of PLACE 0 is there, that is OVER 1.");
        InternetHouse x = Wire.pair(0);
        Wire.known(x, 0, A1, A2, 5);
        x.run(2);
        for (int i = 0; i < 4; i++) {
            Due.inject(x, 0, Wire.piece(20 + i, 0, true, 8));
        }
        x.run(19);
        Due.is("19 UNITS", 1, () -> x.count(0, 0));
        x.run(5);
        Due.is("4 OVER 1", 5, () -> x.count(0, 0));
        Due.is("the first begun first", 20, () -> Wire.u16(Wire.data(x, 0, 3), 8 + 4));
        Due.is("the last", 23, () -> Wire.u16(Wire.data(x, 0, 0), 8 + 4));
        Due.is("ERRORS: 2 were left", 6, () -> x.look(0, 15, 0, 5));
        Due.sentence("FRAMES that are put on a LINE from now on are taken down (at most 12, the first;");
        InternetHouse y = Wire.pair(0);
        Wire.known(y, 0, A1, A2, 5);
        y.run(3);
        y.socket(0, 0, 9);
        y.connect(0, A2, 5);
        y.socket(1, 0, 5);
        y.capture(0, 1);
        for (int i = 0; i < 13; i++) {
            Due.feed(y, new byte[i % 6]);
            y.write(0);
            y.run(1);
        }
        y.run(3);
        Due.is("12", 12, () -> y.capture(0, 2));
        String out = Due.out(y);
        int at = 0;
        for (int i = 0; i < 12; i++) {
            int k = i;
            int here = at;
            Due.is("length of " + k, 31 + k % 6, () -> out.charAt(here + 5));
            Due.is("TIME of " + k, 4 + k, () -> out.charAt(here + 3));
            at += 6 + out.charAt(at + 5);
        }
        Due.is("OUT stays with 0", out.length(), () -> {
            y.capture(0, 0);
            return y.octet(-1);
        });
        Due.is("OUT stays with 1", out.length(), () -> {
            y.capture(0, 1);
            return y.octet(-1);
        });
        InternetHouse z = Wire.pair(0);
        z.capture(0, 2);
        z.echo(0, A2, 0, 32);
        z.run(3);
        Due.is("2 does not begin it", 0, () -> z.capture(0, 2));
    }

    private static void choices() {
        Due.sentence("THE WAY for a PACKET: of all whose NET has TO: those with most BITS; of these with the least KIND;");
        InternetHouse x = wheel(2);
        x.set(0, 5, 1, 0, 0);
        x.set(0, 6, 1, 0, 0);
        x.set(0, 8, 1, 0, 0);
        x.set(0, 9, c(3, 2), 5, 0);
        Due.inject(x, 3, Due.packet(79, 9, 0, 0, c(3, 2), c(3, 1), Wire.open(0, 5, 7)));
        Due.inject(x, 3, Due.packet(79, 9, 0, 0, c(3, 2), c(3, 1), Wire.tell(1, net(1), 16, c(3, 2), 0, 0, 100, 0)));
        Due.is("KIND 4", 256L * c(3, 2) + 3, () -> x.way(0, 0, net(1)));
        Due.inject(x, 2, Due.packet(9, 1, 0, 0, c(2, 2), -1, Due.join(Due.word(net(1)), Due.bytes(16, 14))));
        Due.is("KIND 3 with COST 15", 256L * c(2, 2) + 2, () -> x.way(0, 0, net(1)));
        Due.inject(x, 1, Due.packet(89, 1, 0, 0, c(1, 2), -1, Due.bytes(1, 0, 11, 0)));
        x.run(1);
        byte[] row = Due.join(Due.bytes(2, 0, 11, 11), Due.word(1), Due.bytes(1, 0, 255, 1), Wire.net(net(1), 16, 65535, 0));
        Due.inject(x, 1, Due.packet(89, 1, 0, 0, c(1, 2), -1, row));
        Due.is("KIND 2 with COST 65545", 256L * c(1, 2) + 1, () -> x.way(0, 0, net(1)));
        x.route(0, net(1), 16, c(0, 2), 255);
        Due.is("KIND 1 with COST 255", 256L * c(0, 2), () -> x.way(0, 0, net(1)));
        x.route(0, net(1), 16, c(0, 2), -1);
        x.echo(0, net(1) + 1, 0, 32);
        x.set(0, 6, 0, 0, 0);
        x.set(0, 5, 0, 0, 0);
        Due.is("KIND 4 again", 256L * c(3, 2) + 3, () -> x.way(0, 0, net(1)));
        Due.inject(x, 0, Due.packet(99, 9, 3, 0, c(0, 2), net(1) + 1, NONE));
        Due.is("passed on by KIND 4", 1, () -> x.count(0, 8));
        x.run(3);
        Due.is("passed on by PORT 3", 1, () -> among(x, 3, Due.packet(99, 8, 3, 0, c(0, 2), net(1) + 1, NONE)));
        x.socket(0, 0, 9);
        x.connect(0, net(1) + 1, 5);
        x.write(0);
        x.run(2);
        Due.is("its own by KIND 4, FROM the ADDRESS of that PORT", c(3, 1), () -> Wire.u32(Wire.sent(x, 3, 0), 13));
        x.socket(0, 1, 9);
        x.connect(1, net(1) + 1, 5);
        x.run(1);
        Due.is("a STREAM, too", c(3, 1), () -> Wire.u32(Wire.sent(x, 3, 0), 13));
        Due.sentence("s being the sum of the eight bytes of FROM and TO.");
        InternetHouse y = wheel(2);
        for (int p = 0; p < 4; p++) {
            y.route(0, net(1), 16, c(p, 2), 7);
        }
        // ADDRESSES of this NET: 20 + 1 + the last two bytes; NEXT rises with the PORT.
        for (int i = 0; i < 8; i++) {
            int to = net(1) + i;
            int k = i;
            Due.inject(y, 0, Due.packet(99, 9, i, 0, Due.a(1, 0, 0, 1), to, NONE));
            y.run(1);
            int by = (2 + 21 + i) % 4;
            Due.is("FROM 1.0.0.1, " + k, k, () -> Wire.u16(packet(y, by), 4));
            y.echo(0, to, 0, 32);
            y.run(1);
            int own = (21 + i) % 4;
            Due.is("its own: FROM 0 for s, " + k, c(own, 1), () -> Wire.u32(packet(y, own), 10));
            Due.is("its NUMBER", k, () -> Wire.u16(Wire.data(y, own, 0), 4));
        }
        Due.inject(y, 0, Due.packet(1, 9, 0, 0, net(1) + 2, c(2, 1), Due.control(8, 0, 77, 0, NONE)));
        y.run(1);
        // FROM 10.0.2.1 is said: s is 13 + 23.
        Due.is("a FROM that is said counts for s", 77, () -> Wire.u16(Wire.data(y, 36 % 4, 0), 4));
        y.socket(0, 1, 9);
        y.connect(0, net(1) + 3, 5);
        y.run(1);
        // its FROM by s 24: PORT 0; with that FROM, 10.0.0.1, s is 35: PORT 3.
        Due.is("FROM of a STREAM: FROM 0 for s", c(0, 1), () -> Wire.u32(packet(y, 3), 10));
        Due.sentence("with the least COST of THE WAY to NEXT (KIND 0 as 0);");
        InternetHouse o = wheel(2);
        o.set(0, 8, 1, 0, 0);
        o.set(0, 5, 1, 0, 0);
        o.set(0, 9, c(3, 2), 5, 0);
        Due.inject(o, 3, Due.packet(79, 9, 0, 0, c(3, 2), c(3, 1), Wire.open(0, 5, 7)));
        Due.inject(o, 2, Due.packet(9, 1, 0, 0, c(2, 2), -1, Due.join(Due.word(net(9)), Due.bytes(16, 4))));
        Due.inject(o, 3, Due.packet(79, 9, 0, 0, c(3, 2), c(3, 1), Wire.tell(1, net(1), 16, net(9) + 1, 0, 0, 100, 0)));
        Due.is("NEXT by KIND 3", 256L * c(2, 2) + 2, () -> o.way(0, 0, net(1)));
        Due.is("CHOSEN", net(9) + 1, () -> o.look(0, 7, 0, 2));
    }

    private static void links() {
        Due.sentence("each PORT has an AREA (0 to 3, 0 at first) and a COST (10 at first).");
        InternetHouse x = wheel(2);
        for (int p = 0; p < 4; p++) {
            x.set(0, 7, p, 3 - p, 0);
        }
        x.set(0, 6, 1, 0, 0);
        for (int p = 0; p < 4; p++) {
            Due.inject(x, p, Due.packet(89, 1, 0, 0, c(p, 2), -1, Due.bytes(1, 3 - p, 11 - p, 0)));
        }
        x.run(1);
        Due.is("4 BOOKS", 4, () -> Wire.rows(x, 0, 3));
        for (int a = 0; a < 4; a++) {
            int k = a;
            Due.is("AREA " + k, k, () -> x.look(0, 3, k, 0));
            Due.is("LINKS of AREA " + k, 1, () -> x.look(0, 3, k, 3));
            Due.is("NETS of AREA " + k, k == 0 ? 4 : 2, () -> x.look(0, 3, k, 4));
        }
        for (int p = 0; p < 3; p++) {
            byte[] row = Due.join(Due.bytes(2, 3 - p, 11 - p, 11 - p), Due.word(1), Due.bytes(1, 0, 1, 1), Wire.net(net(1), 16, 5 + p, 0));
            Due.inject(x, p, Due.packet(89, 1, 0, 0, c(p, 2), -1, row));
        }
        Due.sentence("(Of several AREAS: as rows of their own.)");
        Due.is("3 ROWS of one NET", 3, () -> Wire.rows(x, 0, 5));
        for (int i = 0; i < 3; i++) {
            int k = i;
            Due.is("by COST", 15 + k, () -> x.look(0, 5, k, 2));
            Due.is("PORT", k, () -> x.look(0, 5, k, 4));
        }
        Due.is("ROW of ID 11, AREA 3", 311, () -> 100 * x.look(0, 3, 6, 0) + x.look(0, 3, 6, 1));
        x.capture(3, 1);
        x.run(2);
        Due.sentence("each with the least COST, at most 65535, by NET (without a sign), then BITS");
        byte[] own = Wire.net(c(3, 0), 24, 10, 0);
        for (int p = 0; p < 3; p++) {
            own = Due.join(own, Wire.net(c(p, 0), 24, 10, 1));
        }
        own = Due.join(Due.bytes(2, 0, 0, 0), Due.word(2), Due.bytes(1, 8, 10, 5), own, Wire.net(net(1), 16, 15, 1));
        x.capture(3, 2);
        Due.is("own ROW of AREA 0: the least of three AREAS", 1, () -> holds(Due.out(x), x, 3));
        same("own ROW of AREA 0", lastRow(x, 3), own);
        x.set(0, 7, 0, 2, 0);
        Due.is("AREA 3 is gone, with the ROW of ID 11", 0, () -> {
            int many = 0;
            for (int i = 0; i < Wire.rows(x, 0, 3); i++) {
                many += x.look(0, 3, i, 0) == 3 ? 1 : 0;
            }
            return many;
        });
        Due.sentence("NEIGHBOURS of a PORT (at most 4; more are not heard): an ID (not its own), the ADDRESS FROM, a time, and whether it HEARS (its latest HELLO names this ID).");
        InternetHouse y = wheel(2);
        y.set(0, 6, 1, 0, 0);
        Due.inject(y, 3, hello(c(3, 2), 11, 0));
        y.run(1);
        Due.inject(y, 3, Due.packet(89, 1, 0, 0, c(3, 2), -1, Due.join(Due.bytes(2, 0, 11, 11), Due.word(1), Due.bytes(1, 0, 1, 1), Wire.net(net(1), 16, 5, 0))));
        Due.is("a WAY", 256L * c(3, 2) + 3, () -> y.way(0, 0, net(1)));
        Due.inject(y, 3, hello(c(3, 9), 11, 0));
        Due.is("its HELLO FROM another ADDRESS", 256L * c(3, 9) + 3, () -> y.way(0, 0, net(1)));
        Due.inject(y, 3, hello(c(3, 9), 11, 1, 2, 3, 0));
        Due.is("named last", 1, () -> y.look(0, 4, 0, 3));
        Due.inject(y, 3, hello(c(3, 9), 11, 1, 2, 3));
        Due.is("it HEARS no more", 0, () -> y.look(0, 4, 0, 3));
        Due.is("no WAY", -1, () -> y.way(0, 0, net(1)));
        Due.inject(y, 3, hello(c(3, 9), 11, 0));
        Due.is("a WAY again", 256L * c(3, 9) + 3, () -> y.way(0, 0, net(1)));
        Due.sentence("and count only if they came at such a PORT, FROM its NET and not its own ADDRESS.");
        InternetHouse z = wheel(2);
        Due.inject(z, 3, hello(c(3, 2), 5));
        z.set(0, 6, 1, 0, 0);
        Due.inject(z, 3, hello(c(3, 1), 6));
        Due.inject(z, 3, hello(c(2, 2), 7));
        Due.inject(z, 3, hello(c(4, 0), 8));
        Due.is("not ON, its own ADDRESS, not of its NET", 0, () -> Wire.rows(z, 0, 4));
        z.set(1, 0, 1, 0, 0);
        InternetHouse one = Wire.pair(2);
        one.set(1, 6, 1, 0, 0);
        Due.inject(one, 4, Due.packet(89, 1, 0, 0, A1, -1, Due.bytes(1, 0)));
        Due.is("2 bytes at NODE 1: no ID", 0, () -> Wire.rows(one, 1, 4));
        Due.inject(one, 4, Due.packet(89, 1, 0, 0, A1, -1, Due.bytes(1, 0, 0)));
        Due.is("ID 0 at NODE 1", 1, () -> Wire.rows(one, 1, 4));
        Due.sentence("a LINK to an ID above 11 may be told, and is none).");
        InternetHouse w = wheel(2);
        w.set(0, 6, 1, 0, 0);
        Due.inject(w, 3, hello(c(3, 2), 5, 0));
        Due.inject(w, 2, hello(c(2, 2), 6, 0));
        w.run(1);
        Due.inject(w, 2, row(c(2, 2), 6, 6, NONE, net(6)));
        Due.inject(w, 3, row(c(3, 2), 5, 5, Due.bytes(12, 1, 0, 1, 255, 1), net(5)));
        Due.is("12 of 5 is not 0 of 6", 1, () -> Wire.rows(w, 0, 5));
        Due.is("5 alone", net(5), () -> w.look(0, 5, 0, 0));
        Due.sentence("FOUND: in a BOOK, a LINK of a to b is one if the ROWS of both name each other, with the COST that a's has.");
        Due.inject(w, 3, row2(c(3, 2), 5, 5, 2, Due.bytes(0, 1, 11, 7), net(5)));
        Due.inject(w, 3, row(c(3, 2), 5, 11, Due.bytes(5, 100), net(11)));
        Due.is("5 to 11: 10 + 7 + 3", 20, () -> w.look(0, 5, 1, 2));
        Due.inject(w, 3, row2(c(3, 2), 5, 11, 2, Due.bytes(6, 100), net(11)));
        Due.is("11 does not name 5 any more", 1, () -> Wire.rows(w, 0, 5));
        Due.sentence("sent 10 UNITS ago or more, gets it anew (by PORTS, IDS; the ROWS by rising IDS);");
        InternetHouse v = wheel(2);
        v.set(0, 6, 1, 0, 0);
        Due.inject(v, 3, hello(c(3, 2), 10, 0));
        Due.inject(v, 2, hello(c(2, 2), 9, 0));
        v.run(3);
        Due.inject(v, 2, row(c(2, 2), 9, 11, Due.bytes(0, 1), net(11)));
        v.run(2);
        byte[] thanks = Due.packet(89, 1, 0, 0, c(3, 2), -1, Due.join(Due.bytes(3, 0, 10, 0), Due.word(1)));
        Due.inject(v, 3, thanks);
        Due.inject(v, 2, Due.packet(89, 1, 0, 0, c(2, 2), -1, Due.join(Due.bytes(3, 0, 9, 0), Due.word(1))));
        Due.inject(v, 3, hello(c(3, 2), 10, 0));
        Due.inject(v, 2, hello(c(2, 2), 9, 0));
        int before = v.count(0, 0);
        v.run(7);
        Due.is("HELLOS at 8 and 12 on 4 PORTS", before + 8, () -> v.count(0, 0));
        v.run(1);
        same("the ROW of 11 anew", Wire.data(v, 3, 0), Due.join(Due.bytes(2, 0, 0, 11), Due.word(1), Due.bytes(1, 0, 1, 1), Wire.net(net(11), 16, 3, 0)));
        Due.is("at 15", 15, () -> v.seen(3, 0, -2));
        Due.inject(v, 3, Due.packet(89, 1, 0, 0, c(3, 2), -1, Due.join(Due.bytes(3, 0, 10, 11), Due.word(1))));
        Due.inject(v, 3, hello(c(3, 2), 10, 0));
        v.run(10);
        Due.is("THANKS: not anew at 25", 1, () -> Wire.data(v, 3, 0)[0]);
        InternetHouse zero = Wire.pair(2);
        zero.set(0, 6, 1, 0, 0);
        Due.inject(zero, 0, Wire.hello(0, 5, 0));
        zero.run(3);
        int n = zero.count(0, 0);
        Due.inject(zero, 0, Wire.linkRow(5, 0, new int[0]));
        zero.run(1);
        Due.is("NUMBER 0: no THANKS (a HELLO alone)", n + 1, () -> zero.count(0, 0));
    }

    private static int holds(String out, InternetHouse x, int port) {
        return out.isEmpty() || lastRow(x, port).length == 0 ? 0 : 1;
    }

    private static byte[] lastRow(InternetHouse x, int port) {
        for (int i = 0; i < 4; i++) {
            byte[] d = Wire.data(x, port, i);
            if (d.length > 8 && d[0] == 2) {
                return d;
            }
        }
        return NONE;
    }

    private static byte[] hello(int from, int id, int... heard) {
        return Due.packet(89, 1, 0, 0, from, -1, Due.join(Due.bytes(1, 0, id), Due.bytes(heard)));
    }

    private static byte[] row(int from, int by, int id, byte[] links, int net) {
        return row2(from, by, id, 1, links, net);
    }

    private static byte[] row2(int from, int by, int id, int number, byte[] links, int net) {
        return Due.packet(89, 1, 0, 0, from, -1, Due.join(Due.bytes(2, 0, by, id), Due.word(number), Due.bytes(links.length / 2), links,
            Due.bytes(1), Wire.net(net, 16, 3, 0)));
    }

    private static void distances() {
        Due.sentence("DATA that came, if 6 divides its length, each NET with a COST of 1 to 16");
        InternetHouse x = wheel(2);
        x.set(0, 5, 1, 0, 0);
        Due.inject(x, 3, distance(c(3, 2), net(1), 5));
        Due.is("PORT 3", 3, () -> x.look(0, 2, 0, 4));
        Due.is("its WAY", 256L * c(3, 2) + 3, () -> x.way(0, 0, net(1)));
        Due.inject(x, 3, distance(c(3, 2), net(1), 17));
        Due.inject(x, 3, distance(c(3, 2), net(1), 0));
        Due.is("COST 17, 0 of one that is there: nothing", 6, () -> x.look(0, 2, 0, 2));
        x.run(2);
        int sent = x.count(0, 0);
        x.run(3);
        Due.is("nothing CHANGED", sent, () -> x.count(0, 0));
        Due.inject(x, 3, distance(c(3, 2), net(1), 6));
        x.run(1);
        Due.is("another COST: it tells on 4 PORTS", sent + 4, () -> x.count(0, 0));
        Due.sentence("its time TIME, or, if m is 16 and it was not, 30 UNITS ago (if it was, it stays);");
        for (int cost = 13; cost < 16; cost++) {
            InternetHouse y = wheel(2);
            y.set(0, 5, 1, 0, 0);
            Due.inject(y, 3, distance(c(3, 2), net(1), 13));
            y.run(20);
            Due.inject(y, 3, distance(c(3, 2), net(1), cost));
            Due.is("COST", cost + 1, () -> y.look(0, 2, 0, 2));
            y.run(14);
            Due.is("there at 34 UNITS", 1, () -> Wire.rows(y, 0, 2));
            y.run(1);
            Due.is("m " + (cost + 1) + " at 35 UNITS", cost == 15 ? 0 : 1, () -> Wire.rows(y, 0, 2));
        }
        InternetHouse z = wheel(2);
        z.set(0, 5, 1, 0, 0);
        Due.inject(z, 3, distance(c(3, 2), net(1), 14));
        z.run(20);
        Due.inject(z, 3, distance(c(3, 2), net(1), 15));
        z.run(15);
        Due.is("from 15 to 16: gone 15 UNITS later", 0, () -> Wire.rows(z, 0, 2));
        z.quality(3, 6, 1);
        Due.inject(z, 0, distance(c(0, 2), net(2), 14));
        z.run(1);
        Due.is("the LINE of PORT 3 is not that of PORT 0", 15, () -> z.look(0, 2, 0, 2));
    }

    private static byte[] distance(int from, int net, int cost) {
        return Due.packet(9, 1, 0, 0, from, -1, Due.join(Due.word(net), Due.bytes(16, cost)));
    }

    /** ROUTER 0 with four PEERS at its PORTS, of SYSTEMS 5 to 8, all UP. */
    private static InternetHouse four() {
        InternetHouse x = wheel(2);
        x.set(0, 8, 1, 0, 0);
        for (int p = 0; p < 4; p++) {
            x.set(0, 9, c(p, 2), 5 + p, 0);
            outer(x, p, Wire.open(0, 5 + p, p));
        }
        x.run(1);
        return x;
    }

    private static void outer(InternetHouse x, int p, byte[] data) {
        Due.inject(x, p, Due.packet(79, 9, 0, 0, c(p, 2), c(p, 1), data));
    }

    private static void peers() {
        Due.sentence("HEARD of a PEER: at most 12 NETS (more are nothing);");
        InternetHouse x = four();
        for (int p = 0; p < 4; p++) {
            for (int i = 0; i < 13; i++) {
                outer(x, p, Wire.tell(i + 1, net(20 * p + i), 16, c(p, 2), 0, 0, 100, 0, 5 + p));
            }
            int k = p;
            Due.is("12 of each", 12, () -> x.look(0, 6, k, 3));
        }
        for (int i = 0; i < 6; i++) {
            x.set(0, 10, net(200 + i), 16, 1);
        }
        Due.is("48 and 6 CHOSEN", 54, () -> Wire.rows(x, 0, 7));
        Due.is("the last one HEARD has a WAY", 256L * c(3, 2) + 3, () -> x.way(0, 0, net(71)));
        Due.is("the own ones have none", -1, () -> x.way(0, 0, net(205)));
        Due.sentence("of each PEER that is UP with nothing under way:");
        InternetHouse y = four();
        y.set(0, 10, net(1), 16, 1);
        outer(y, 0, Due.bytes(6));
        outer(y, 2, Due.bytes(6));
        y.run(1);
        Due.is("behind one that is IDLE", 3, () -> Wire.data(y, 1, 0)[0]);
        Due.is("behind two that are IDLE", 3, () -> Wire.data(y, 3, 0)[0]);
        Due.is("IDLE: no TELL", 1, () -> Wire.data(y, 0, 0)[0]);
        outer(y, 0, Wire.open(0, 5, 0));
        outer(y, 2, Wire.open(0, 7, 2));
        y.run(2);
        Due.is("behind those with something under way", 3, () -> Wire.data(y, 2, 0)[0]);
        for (int p = 0; p < 4; p++) {
            outer(y, p, Due.bytes(5, 0, 1));
            int k = p;
            Due.is("each has its own NUMBERS", 1, () -> y.look(0, 6, k, 4));
        }
        Due.sentence("or that it was TOLD and is not to be told any more (TAKE BACK) is sent with the next NUMBER");
        Wire.load(y, 0, 1, "out peer 3 refuse");
        y.run(1);
        same("POLICY OUT: TAKE BACK", Wire.data(y, 3, 0), Wire.takeBack(2, net(1), 16));
        Due.is("not for the others", 3, () -> Wire.data(y, 2, 0)[0]);
        InternetHouse z = four();
        z.set(0, 10, net(1), 16, 1);
        z.set(0, 10, net(1), 17, 1);
        z.set(0, 10, net(1), 18, 1);
        for (int i = 1; i < 4; i++) {
            z.run(2);
            outer(z, 0, Due.bytes(5, 0, i));
        }
        Due.is("3 TOLD", 3, () -> z.look(0, 6, 0, 4));
        z.set(0, 10, net(1), 18, 0);
        z.set(0, 10, net(1), 16, 0);
        z.run(1);
        same("the one of less BITS first", Wire.data(z, 0, 0), Wire.takeBack(4, net(1), 16));
        outer(z, 0, Due.bytes(5, 0, 4));
        z.run(1);
        same("then the one of more", Wire.data(z, 0, 0), Wire.takeBack(5, net(1), 18));
        Due.sentence("What is too short for what it tells is nothing");
        int before = z.count(0, 0);
        outer(z, 0, Wire.cut(Wire.takeBack(9, 0, 0), 7));
        z.run(1);
        Due.is("TAKE BACK of 7 bytes: no THANKS", before, () -> z.count(0, 0));
        Due.sentence("(a NET within it, with such BITS)");
        InternetHouse w = four();
        Wire.load(w, 0, 1, "in peer 0 net 20.0.0.0/8 9 24 accept degree 7\nin peer 3 med 5 accept");
        Wire.load(w, 0, 1, "in peer 0 net 20.0.0.0/8 9 24 accept degree 7\nin peer 3 accept med 0\nin refuse");
        outer(w, 0, Wire.tell(1, net(1), 16, c(0, 2), 0, 9, 100, 7, 5));
        outer(w, 1, Wire.tell(1, net(2), 16, c(1, 2), 0, 9, 100, 7, 5));
        outer(w, 3, Wire.tell(1, net(3), 16, c(3, 2), 0, 9, 100, 7, 5));
        outer(w, 0, Wire.tell(2, Due.a(21, 0, 0, 0), 16, c(0, 2), 0, 9, 100, 7, 5));
        Due.is("another NET, another PEER", 2, () -> Wire.rows(w, 0, 7));
        Due.is("DEGREE becomes 7", 7, () -> w.look(0, 7, 0, 3));
        Due.is("MED stays", 9, () -> w.look(0, 7, 0, 6));
        Due.is("MARK stays", 7, () -> w.look(0, 7, 0, 7));
        Due.is("how many SYSTEMS stays", 1, () -> w.look(0, 7, 0, 4));
        Due.is("MED becomes 0", 0, () -> w.look(0, 7, 1, 6));
        Due.is("DEGREE stays", 100, () -> w.look(0, 7, 1, 3));
    }

    private static final int FIRST = Wire.draw(0) >>> 16 << 16 | Wire.draw(Wire.draw(0)) >>> 16;
    private static final int UNA = FIRST + 1;

    private static void in(InternetHouse x, int number, int ack, int flags, byte[] data) {
        Due.inject(x, 4, Wire.segment(number, ack, flags, 400, data));
    }

    private static InternetHouse open() {
        InternetHouse x = Wire.pair(0);
        x.set(0, 0, 0, 0, 0);
        Wire.known(x, 4, A2, A1, 1);
        x.socket(1, 2, 80);
        in(x, 100, 0, 2, NONE);
        in(x, 101, UNA, 16, NONE);
        x.run(3);
        return x;
    }

    private static void streams() {
        Due.sentence("If not: an ACK is sent (unless RST); nothing more.");
        int[][] cases = {{0, 400, 0, 0}, {0, 399, 0, 1}, {0, -1, 1, 0}, {0, -1, 2, 1}, {400, -1, 2, 0}, {400, 0, 0, 1}, {400, 1, 0, 0}, {0, 400, 1, 0},
            {0, 399, 1, 1}, {399, 1, 1, 0}, {399, 0, 1, 1}, {399, 0, 5, 1}, {0, -5, 4, 0}, {0, -5, 5, 0}, {0, -5, 6, 1}};
        for (int[] t : cases) {
            InternetHouse x = open();
            for (int i = 0; i < t[0]; i += 100) {
                in(x, 101 + i, UNA, 16, new byte[Math.min(100, t[0] - i)]);
            }
            Due.feed(x, new byte[48]);
            x.write(1);
            in(x, 101 + t[0] + t[1], UNA + 48, 16, new byte[t[2]]);
            Due.is("w " + (400 - t[0]) + ", o " + t[1] + ", l " + t[2], t[3] == 1 ? 0 : 48, () -> x.state(1, 9));
        }
        Due.sentence("THE WINDOW it offers: 400 less the bytes in order that were not read.");
        InternetHouse x = open();
        in(x, 101, UNA, 16, new byte[3]);
        in(x, 105, UNA, 16, new byte[3]);
        x.run(2);
        Due.is("an ACK", 397, () -> Wire.u16(Wire.data(x, 4, 0), 14));
        Due.feed(x, new byte[50]);
        x.write(1);
        x.run(1);
        Due.is("bytes", 397, () -> Wire.u16(Wire.data(x, 4, 0), 14));
        x.close(1, 0);
        x.run(2);
        Due.is("the FIN", 397, () -> Wire.u16(Wire.data(x, 4, 0), 14));
        for (int i = 0; i < 3; i++) {
            in(x, 104, UNA, 16, NONE);
        }
        x.run(1);
        Due.is("sent again", 397, () -> Wire.u16(Wire.data(x, 4, 0), 14));
        InternetHouse y = Wire.pair(0);
        y.set(0, 0, 0, 0, 0);
        Wire.known(y, 4, A2, A1, 1);
        y.socket(1, 2, 80);
        Due.inject(y, 4, Wire.segment(100, 0, 2, 100, NONE));
        Due.feed(y, "abc");
        Due.sentence("A STREAM (SYN SENT to OPEN, CLOSE WAIT): as many of its first bytes as there is room for come to the ROW");
        Due.is("SYN CAME", 3, () -> y.write(1));
        Due.is("nothing is sent yet", 1, () -> y.state(1, 9));
        Due.inject(y, 4, Wire.segment(101, UNA, 16, 0, new byte[2]));
        Due.is("WINDOW 0: not yet", 0, () -> y.state(1, 9));
        y.run(13);
        Due.is("1 byte from NEXT on", 1, () -> Wire.data(y, 4, 0).length - 18);
        Due.is("its WINDOW", 398, () -> Wire.u16(Wire.data(y, 4, 0), 14));
        Due.inject(y, 4, Wire.segment(103, UNA, 16, 100, NONE));
        Due.is("the WINDOW is open", 3, () -> y.state(1, 9));
        Due.sentence("and FLIGHT above 0: DUPS is 1 more; with 3: EDGE is half of FLIGHT (96 at least)");
        InternetHouse one = open();
        Due.feed(one, new byte[1]);
        one.write(1);
        for (int i = 1; i < 4; i++) {
            in(one, 101, UNA, 16, NONE);
            int k = i;
            Due.is("FLIGHT 1", k, () -> one.state(1, 16));
        }
        one.run(2);
        Due.is("1 byte sent again", 1, () -> Wire.data(one, 4, 0).length - 18);
        Due.is("twice in all", 1, () -> Wire.data(one, 4, 1).length - 18);
        InternetHouse two = open();
        Due.feed(two, new byte[400]);
        two.write(1);
        two.run(5);
        in(two, 101, UNA, 16, NONE);
        in(two, 101, UNA, 16, NONE);
        Due.is("DUPS 2", 2, () -> two.state(1, 16));
        in(two, 101, UNA + 48, 16, NONE);
        Due.is("DUPS below 3: CARE 48 more", 144, () -> two.state(1, 4));
        Due.is("DUPS 0", 0, () -> two.state(1, 16));
        in(two, 101, UNA + 143, 16, NONE);
        Due.is("CARE 48 more", 192, () -> two.state(1, 4));
        wide();
        Due.sentence("the TIMER is off, or, if FLIGHT is above 0, set anew.");
        InternetHouse last = open();
        Due.feed(last, new byte[2]);
        last.write(1);
        last.run(10);
        in(last, 101, UNA + 1, 16, NONE);
        last.run(11);
        Due.is("FLIGHT 1: set anew at 10", 0, () -> last.state(1, 15));
        last.run(1);
        Due.is("12 UNITS later", 1, () -> last.state(1, 15));
        Due.sentence("is for the SOCKET of KIND 1 or 2 with its port to, whose far ADDRESS and port are its FROM and port (STATE 2 to 10);");
        InternetHouse many = Wire.pair(0);
        many.socket(0, 2, 80);
        many.socket(1, 0, 80);
        many.connect(1, A1, 7);
        many.socket(1, 2, 80);
        many.socket(0, 2, 81);
        in(many, 100, 0, 2, NONE);
        Due.is("of its NODE, no DATAGRAMS", 3, () -> many.state(4, 0));
        Due.is("at NODE 1", 1, () -> many.state(4, 13));
        in(many, 101, UNA, 16, new byte[2]);
        Due.is("2 bytes", 2, () -> many.state(4, 2));
    }

    /** A FLIGHT of more than 288: EDGE is half of it; and CARE that is 48 at least. */
    private static void wide() {
        InternetHouse x = open();
        int una = UNA;
        for (int i = 0; i < 40; i++) {
            Due.feed(x, new byte[400]);
            x.write(1);
            x.run(6);
            una += 48;
            in(x, 101, una, 16, NONE);
        }
        Due.feed(x, new byte[400]);
        x.write(1);
        int flight = x.state(1, 9);
        Due.is("FLIGHT: 8 PARTS", 384, () -> flight);
        for (int i = 0; i < 3; i++) {
            in(x, 101, una, 16, NONE);
        }
        Due.is("EDGE", 192, () -> x.state(1, 5));
        Due.is("CARE", 336, () -> x.state(1, 4));
        Due.sentence("CARE is less by what was thanked for, and 48 more (48 at least), DUPS stays;");
        int base = una;
        in(x, 101, base + 335, 16, NONE);
        Due.is("336 - 335 + 48", 49, () -> x.state(1, 4));
        in(x, 101, base + 337, 16, NONE);
        Due.is("49 - 2 + 48", 95, () -> x.state(1, 4));
        in(x, 101, base + 383, 16, NONE);
        Due.is("95 - 46 + 48", 97, () -> x.state(1, 4));
        Due.is("DUPS stays", 3, () -> x.state(1, 16));
        InternetHouse y = open();
        una = UNA;
        for (int i = 0; i < 40; i++) {
            Due.feed(y, new byte[400]);
            y.write(1);
            y.run(6);
            una += 48;
            in(y, 101, una, 16, NONE);
        }
        Due.feed(y, new byte[400]);
        y.write(1);
        for (int i = 0; i < 3; i++) {
            in(y, 101, una, 16, NONE);
        }
        in(y, 101, una + 337, 16, NONE);
        Due.is("336 - 337 + 48: 48 at least", 48, () -> y.state(1, 4));
    }

    private static String told(String zones, int kind, String name) {
        InternetHouse x = Wire.pair(0);
        x.set(1, 0, 0, 0, 0);
        Wire.known(x, 0, A1, A2, 5);
        x.run(2);
        Due.is("load", 1, () -> Wire.load(x, 0, 2, zones) >= 0 ? 1 : 0);
        Due.inject(x, 0, Wire.question(A2, A1, 5, kind, name));
        x.run(1);
        byte[] d = Wire.data(x, 0, 0);
        return d[3] + " " + d[4] + " " + d.length;
    }

    private static void names() {
        Due.sentence("At most 5 ROWS, as far as all of DATA is not above 130 bytes (others are left out).");
        String long35 = "aaaaaaaa.bbbbbbbb.cccccccc.dddddddd";
        String mid31 = "aaaaaaaa.bbbbbbbb.cccccccc.dddd";
        String mid30 = "aaaaaaaa.bbbbbbbb.cccccccc.ddd";
        String zone = "zone . 9\na 5 alias " + long35 + "\na 5 alias " + long35 + "\na 5 alias ";
        Due.said("5 + 41 + 41 + 36 + 7 are 130", told(zone + mid30 + "\na 5 alias b", 3, "a"), "0 4 130");
        Due.said("131", told(zone + mid31 + "\na 5 alias b", 3, "a"), "0 3 124");
        String n33 = "aaaaaaaa.bbbbbbbb.cccccccc.dddddd";
        String n34 = "aaaaaaaa.bbbbbbbb.cccccccc.ddddddd";
        Due.said("5 + 3 * 41 are 128", told("zone . 9\n" + (n33 + " 5 text 1\n").repeat(3), 4, n33), "0 3 128");
        Due.said("5 + 3 * 42 are 131", told("zone . 9\n" + (n34 + " 5 text 1\n").repeat(3), 4, n34), "0 2 89");
        Due.sentence("a NAME: 1 to 4 LABELS (1 to 8 letters a to z, digits, -) with dots between, the last one the highest;");
        String four = "zone d.c.b.a 9\nd.c.b.a 5 text 1\nzone c.b.a 8\nc.b.a 5 text 1\nx.c.b.a 5 text 1\nx.c.b.a 5 text 2";
        Due.said("a ZONE of 4 LABELS", told(four, 4, "d.c.b.a"), "0 1 20");
        Due.said("another one of 4 LABELS", told(four, 4, "x.c.b.a"), "0 2 35");
        Due.said("none of that NAME", told(four, 4, "y.c.b.a"), "1 1 15");
        Due.said("of 3 LABELS", told(four, 4, "c.b.a"), "0 1 18");
        Due.sentence("If a CUT is the NAME, or above it (the highest such): 3 with its ROWS of KIND 2 (as they stand), then for each of these the ADDRESSES of its VALUE that stand in the ZONE.");
        String cuts = "zone a 9\nc.b.a 5 ns n.b.a\nzone b.a 8\nd.b.a 5 ns n.b.a\nx.b.a 5 text 1\nc.b.a 5 text 1\nzone z 7\nn.z 5 a 1.2.3.4";
        Due.said("a CUT of another ZONE is none", told(cuts, 4, "c.b.a"), "0 1 18");
        Due.said("a CUT of this ZONE", told(cuts, 4, "d.b.a"), "3 1 20");
        String glue = "zone a 9\nb.a 5 ns n.z\nzone z 7\nn.z 5 a 1.2.3.4";
        Due.said("an ADDRESS of another ZONE is none", told(glue, 4, "b.a"), "3 1 16");
        String deep = "zone a 9\nd.c.b.a 5 ns n.a\nd.c.b.a 5 ns m.a\nn.a 5 a 1.2.3.4\nm.a 5 a 1.2.3.5\nm.a 5 text 1";
        Due.said("a CUT of 4 LABELS, two SERVERS with an ADDRESS each", told(deep, 1, "d.c.b.a"), "3 4 57");
        Due.sentence("so is an ANSWER with a ROW that can't be, or less ROWS than told");
        byte[][] rows = {Wire.noRow(9, "b.c"), Wire.row(1, 9, "b.c", 7), Wire.row(2, 9, "b.c", "d.e"), Wire.row(3, 9, "b.c", "d.e"), Wire.row(4, 9, "b.c", 7)};
        for (int k = 0; k < 5; k++) {
            for (int n = 0; n <= rows[k].length; n++) {
                InternetHouse x = asker();
                ask(x, "a", 1);
                Due.inject(x, 0, Wire.reply(A2, A1, Wire.draw(0) >>> 16, 1, Wire.cut(rows[k], n)));
                int want = n == rows[k].length ? 1 : -1;
                Due.is("KIND " + k + ", " + n + " bytes of it", want, () -> x.answer(0, 0, 0));
            }
        }
        InternetHouse five = asker();
        ask(five, "a", 1);
        Due.inject(five, 0, Wire.reply(A2, A1, Wire.draw(0) >>> 16, 1, Wire.row(5, 9, "a", "b")));
        Due.is("KIND 5 with a NAME", -1, () -> five.answer(0, 0, 0));
        Due.sentence("9 CACHE (as they came): KIND, VALUE (NAMES: their length), till when;");
        InternetHouse x = asker();
        ask(x, "a", 1);
        String all = "a-z.0-9";
        Due.inject(x, 0, Wire.reply(A2, A1, Wire.draw(0) >>> 16, 0, Wire.row(1, 50, "a", -5), Wire.row(2, 51, "b", all), Wire.row(3, 52, "c", "."),
            Wire.row(4, 53, "d", 65535), Wire.row(2, 54, "e", long35)));
        long[][] look = {{1, -5, 50}, {2, 7, 51}, {3, 1, 52}, {4, 65535, 53}, {2, 35, 54}};
        for (int i = 0; i < 5; i++) {
            for (int k = 0; k < 3; k++) {
                int r = i;
                int n = k;
                Due.is("ROW " + r + ", number " + n, look[r][n], () -> x.look(0, 9, r, n));
            }
        }
        Due.sentence("OUT becomes VALUE i of the answer to QUESTION q of a NODE (4 bytes, or the NAME)");
        Due.is("an ADDRESS", 0, () -> x.answer(0, 0, 0));
        Due.outIs("4 bytes", x, "\u00ff\u00ff\u00ff\u00fb");
        ask(x, "zz", 1);
        String[] names = {"b", "e", "c"};
        int[] kinds = {2, 2, 3};
        String[] values = {all, long35, "."};
        for (int i = 0; i < 3; i++) {
            Due.feed(x, names[i]);
            int kind = kinds[i];
            int k = i;
            Due.is("QUESTION 1", 1, () -> x.ask(0, kind));
            Due.is("a NAME", 0, () -> x.answer(0, 1, 0));
            Due.outIs(names[k], x, values[k]);
        }
        Due.sentence("asked 15 UNITS ago or more: the QUESTION is sent there again (a new NUMBER);");
        InternetHouse y = asker();
        Wire.known(y, 0, A1, A2, 5);
        y.run(2);
        int sent = y.count(0, 0);
        for (int q = 0; q < 4; q++) {
            Due.feed(y, "q" + q);
            y.ask(0, 1);
        }
        y.run(14);
        Due.is("4 QUESTIONS", sent + 4, () -> y.count(0, 0));
        y.run(4);
        Due.is("4 again", sent + 8, () -> y.count(0, 0));
        Wire.runs(y, 41);
        for (int q = 0; q < 4; q++) {
            int k = q;
            Due.is("59 UNITS: under way", -1, () -> y.answer(0, k, 0));
        }
        y.run(1);
        for (int q = 0; q < 4; q++) {
            int k = q;
            Due.is("60 UNITS: FAILED", 3, () -> y.answer(0, k, 0));
        }
        Due.sentence("\"no\" of the NAME: with 1; else of the KIND: with 2.");
        InternetHouse z = asker();
        ask(z, "a", 1);
        Due.inject(z, 0, Wire.reply(A2, A1, Wire.draw(0) >>> 16, 1, Wire.noRow(50, ".")));
        ask(z, "a", 4);
        Due.is("the only ROW of the CACHE", 1, () -> z.answer(0, 0, 0));
        ask(z, "b.a", 4);
        Due.is("of that NAME alone", -1, () -> z.answer(0, 0, 0));
        InternetHouse glued = asker();
        glued.route(0, 0, 0, A2, 1);
        Wire.known(glued, 0, A1, A2, 5);
        glued.run(2);
        ask(glued, "x.b", 1);
        Due.inject(glued, 0, Wire.reply(A2, A1, Wire.draw(0) >>> 16, 3, Wire.row(1, 50, "n", Due.a(77, 0, 0, 7)), Wire.row(2, 50, "b", "n")));
        glued.run(2);
        Due.is("an ADDRESS that is the first ROW", Due.a(77, 0, 0, 7), () -> Wire.u32(Wire.sent(glued, 0, 0), 3 + 14));
        same("the QUESTION there", java.util.Arrays.copyOfRange(Wire.data(glued, 0, 0), 3, 8), Due.join(Due.bytes(1), Wire.name("x.b")));
    }

    private static InternetHouse asker() {
        InternetHouse x = Wire.pair(0);
        x.set(1, 0, 0, 0, 0);
        x.set(0, 15, A2, 0, 0);
        return x;
    }

    private static void ask(InternetHouse x, String name, int kind) {
        Due.feed(x, name);
        Due.is("ask " + name, 0, () -> x.ask(0, kind));
    }

    private static void maps() {
        Due.sentence("-1 if it does not come there in 32 such steps, or by a HOST, but a, or a TUNNEL.");
        for (int kind = 0; kind < 3; kind += 2) {
            InternetHouse x = new InternetHouse();
            x.node(0);
            x.node(kind);
            x.node(0);
            x.line(0, 4, 1, 255, 148);
            x.line(7, 8, 1, 255, 148);
            x.address(0, A1, 24);
            x.address(4, A2, 24);
            x.address(7, B1, 24);
            x.address(8, B2, 24);
            x.route(0, 0, 0, A2, 1);
            int want = kind == 0 ? -1 : 2;
            Due.is("by one of kind " + kind, want, () -> x.map(0, 0, B2));
            Due.is("to it", 1, () -> x.map(0, 0, B1));
        }
        InternetHouse o = wheel(2);
        for (int p = 0; p < 4; p++) {
            o.set(1 + p, 0, 1, 0, 0);
        }
        o.set(0, 8, 1, 0, 0);
        o.set(0, 9, c(0, 2), 5, 0);
        outer(o, 0, Wire.open(0, 5, 7));
        outer(o, 0, Wire.tell(1, c(77, 0), 24, c(3, 2), 0, 0, 100, 0));
        o.route(1, 0, 0, c(0, 1), 1);
        o.address(18, c(77, 7), 24);
        Due.is("by a WAY of KIND 4", 2, () -> o.map(0, 1, c(77, 7)));
        Due.sentence("2: 1 if any two UP ROUTERS with LINK ON whose PORTS are so connected have the same BOOK of that AREA, else 0.");
        InternetHouse y = new InternetHouse();
        for (int i = 0; i < 12; i++) {
            y.node(2);
        }
        y.line(43, 47, 1, 255, 148);
        y.address(43, A1, 24);
        y.address(47, A2, 24);
        y.set(10, 6, 1, 0, 0);
        y.set(11, 6, 1, 0, 0);
        Due.is("D of NODES 10 and 11", 10, () -> y.map(1, 10, 11));
        y.run(1);
        Due.is("ROWS of 10 and 11 differ", 0, () -> y.map(2, 0, 0));
        Wire.runs(y, 30);
        Due.is("the same", 1, () -> y.map(2, 0, 0));
        Due.is("ROW of ID 11, AREA 0", 11, () -> 100 * y.look(10, 3, 1, 0) + y.look(10, 3, 1, 1));
        y.set(11, 2, 3, 11, 0);
        y.run(1);
        Due.is("one byte of the ROW of 11 differs", 0, () -> y.map(2, 0, 0));
        y.set(11, 0, 0, 0, 0);
        Due.is("it is down", 1, () -> y.map(2, 0, 0));
        Due.sentence("3: how many sets of joined BRIDGES (UP, whole LINES) there are whose PORTS that FORWARD to each other are no tree.");
        InternetHouse b = new InternetHouse();
        for (int i = 0; i < 12; i++) {
            b.node(1);
        }
        b.line(32, 36, 20, 255, 148);
        b.line(37, 40, 20, 255, 148);
        b.line(41, 33, 20, 255, 148);
        b.line(35, 47, 20, 255, 148);
        b.set(11, 0, 0, 0, 0);
        b.run(10);
        Due.is("three in a ring FORWARD to each other", 1, () -> b.map(3, 0, 0));
        b.set(11, 0, 1, 0, 0);
        b.run(2);
        Due.is("a fourth is joined, but does not FORWARD: 3 LINES of 4, no tree", 1, () -> b.map(3, 0, 0));
        b.quality(0, 6, 1);
        Due.is("three in a row, and the fourth", 1, () -> b.map(3, 0, 0));
        b.run(5);
        Due.is("four in a row", 0, () -> b.map(3, 0, 0));
        Due.sentence("IllegalArgumentException: another what, numbers;");
        Due.argument("17 with a GROUP", () -> b.set(0, 17, Wire.GROUP, 1, 0));
        Due.argument("17 of a HOST", () -> o.set(1, 17, Wire.GROUP, 1, 0));
    }

    public static void main(String[] args) {
        bytes();
        takes();
        ports();
        filters();
        joinings();
        choices();
        links();
        distances();
        peers();
        streams();
        names();
        maps();
        Due.end("BoundsFarTest");
    }
}
