/** Boundary cases of FINDING and PACKETS, and of promises 8, 9, 17 and 18. */
public final class BoundsPacketTest {
    private static final int A1 = Wire.A1;
    private static final int A2 = Wire.A2;
    private static final int A9 = Due.a(10, 0, 0, 9);

    private static int far(int i) {
        return Due.a(10, 0, 0, 100 + i);
    }

    private static void addresses() {
        InternetHouse x = new InternetHouse();
        x.node(0);
        x.node(1);
        Due.sentence("HOSTS and ROUTERS have for each PORT perhaps an ADDRESS with BITS (its NET; 1 to 31).");
        Due.sentence("PORT p has this ADDRESS with BITS (1 to 31; 0: none any more): 1.");
        Due.missing("PORT 8", () -> x.address(8, A1, 24));
        Due.missing("PORT -1", () -> x.address(-1, A1, 24));
        Due.missing("PORT before BITS", () -> x.address(8, 0, 99));
        Due.argument("BITS -1", () -> x.address(0, A1, -1));
        Due.argument("BITS 32", () -> x.address(0, A1, 32));
        Due.is("BITS 1", 1, () -> x.address(0, A1, 1));
        Due.is("BITS 31", 1, () -> x.address(0, A1, 31));
        Due.is("BITS", 31, () -> x.look(0, 1, 0, 2));
        Due.is("BITS 0", 1, () -> x.address(0, 0, 0));
        Due.missing("none any more", () -> x.look(0, 1, 0, 0));
        Due.is("BITS 0 of none", 1, () -> x.address(0, 0, 0));
        Due.sentence("IllegalArgumentException: also if the ADDRESS is 0, ALL or a GROUP, or another PORT of this NODE has a NET that has it, or an ADDRESS in its NET.");
        Due.argument("0", () -> x.address(0, 0, 24));
        Due.argument("ALL", () -> x.address(0, -1, 24));
        Due.argument("a GROUP", () -> x.address(0, Wire.GROUP, 24));
        x.address(0, A1, 24);
        Due.argument("in its NET", () -> x.address(1, Due.a(10, 0, 0, 255), 31));
        Due.argument("the same", () -> x.address(3, A1, 31));
        Due.is("the next NET", 1, () -> x.address(1, Due.a(10, 0, 1, 0), 24));
        Due.argument("an ADDRESS in its NET", () -> x.address(2, Due.a(10, 0, 3, 1), 22));
        Due.is("a NET without one", 1, () -> x.address(2, Due.a(10, 0, 2, 1), 23));
        Due.is("its own PORT is not another", 1, () -> x.address(0, A2, 24));
        Due.sentence("IllegalStateException: the NODE is a BRIDGE, or the PORT BORROWS or LENDS.");
        Due.argument("numbers before the BRIDGE", () -> x.address(4, 0, 24));
        Due.state("a BRIDGE", () -> x.address(4, A1, 24));
        Due.state("a BRIDGE, none any more", () -> x.address(4, 0, 0));
        x.set(0, 13, 0, Due.a(10, 0, 0, 50), 1010);
        Due.argument("numbers before LENDS", () -> x.address(0, A1, 32));
        Due.state("LENDS", () -> x.address(0, A1, 24));
        Due.state("LENDS, none any more", () -> x.address(0, 0, 0));
        x.set(0, 13, 0, 0, 0);
        Due.is("LENDS no more", 1, () -> x.address(0, A1, 24));
        x.set(0, 14, 3, 1, 0);
        Due.state("BORROWS", () -> x.address(3, Due.a(11, 0, 0, 1), 24));
        x.set(0, 14, 3, 0, 0);
        Due.is("BORROWS no more", 1, () -> x.address(3, Due.a(11, 0, 0, 1), 24));
        Due.sentence("What it had FOUND and what WAITS there are gone.");
        InternetHouse y = Wire.pair(0);
        Wire.known(y, 0, A1, A9, 77);
        y.echo(0, far(1), 0, 32);
        Due.is("FOUND", 1, () -> Wire.rows(y, 0, 0));
        y.address(0, A1, 24);
        Due.is("gone with the same ADDRESS, too", 0, () -> Wire.rows(y, 0, 0));
        y.run(40);
        Due.missing("what WAITED is not told", () -> y.look(0, 13, 0, 0));
        Due.is("an ASK and an ANSWER: no further ASK", 2, () -> y.count(0, 0));
    }

    private static void finding() {
        Due.sentence("A FIND that ARRIVES at a PORT with an ADDRESS (with another length or OP it is nothing)");
        InternetHouse x = Wire.pair(0);
        byte[] body = Due.join(Due.bytes(1, 77), Due.word(A9), Due.word(A1));
        for (int n : new int[] {0, 9, 11}) {
            Wire.frame(x, 0, Due.frame(255, 77, 2, Wire.cut(body, n)));
        }
        for (int op : new int[] {0, 3, 255}) {
            body[0] = (byte) op;
            Wire.frame(x, 0, Due.frame(255, 77, 2, body));
        }
        Due.is("nothing", 0, () -> Wire.rows(x, 0, 0));
        body[0] = 1;
        Wire.frame(x, 1, Due.frame(255, 77, 2, body));
        Due.is("at a PORT without an ADDRESS", 0, () -> Wire.rows(x, 0, 0));
        Wire.frame(x, 0, Due.frame(255, 77, 2, body));
        Due.is("10 bytes, OP 1", 1, () -> Wire.rows(x, 0, 0));
        Due.sentence("if it is an ASK for that ADDRESS: the sender is KNOWN, and an ANSWER goes back to it (TO its LINK ADDRESS as told).");
        byte[] other = Due.frame(255, 13, 2, Due.join(Due.bytes(1, 99), Due.word(far(1)), Due.word(A1)));
        Wire.frame(x, 0, other);
        x.run(2);
        byte[] answer = Due.frame(99, 1, 2, Due.join(Due.bytes(2, 1), Due.word(A1), Due.word(far(1))));
        Due.is("ANSWER", 1, () -> java.util.Arrays.equals(answer, Wire.sent(x, 0, 0)) ? 1 : 0);
        Due.sentence("An ANSWER, or an ASK for another one: the sender is KNOWN, if there is a ROW of it, or WAITS for it.");
        Wire.frame(x, 0, Wire.find(2, 50, far(2), A1));
        Wire.frame(x, 0, Wire.find(1, 50, far(3), A2));
        Due.is("no ROW of it", 2, () -> Wire.rows(x, 0, 0));
        Wire.frame(x, 0, Wire.find(2, 51, far(1), far(7)));
        Due.is("an ANSWER with a ROW", 51, () -> x.look(0, 0, 1, 2));
        Due.is("its time", 2, () -> x.look(0, 0, 1, 3));
        Wire.frame(x, 0, Wire.find(1, 52, far(1), far(7)));
        Due.is("an ASK for another one with a ROW", 52, () -> x.look(0, 0, 1, 2));
        x.echo(0, far(4), 0, 32);
        Wire.frame(x, 0, Wire.find(1, 53, far(4), far(7)));
        Due.is("it WAITS for it", 53, () -> x.look(0, 0, 2, 2));
        Due.sentence("But if the sender has the PORT's own ADDRESS, the NODE counts a DOUBLED, and nothing else is done.");
        Due.is("none yet", 0, () -> x.count(0, 7));
        x.run(3);
        int sent = x.count(0, 0);
        Wire.frame(x, 0, Wire.find(1, 53, A1, A1));
        Wire.frame(x, 0, Wire.find(2, 53, A1, A1));
        Wire.frame(x, 0, Wire.find(1, 53, A1, A2));
        Due.is("three", 3, () -> x.count(0, 7));
        x.run(2);
        Due.is("no ANSWER", sent, () -> x.count(0, 0));
        Due.is("no ROW", 3, () -> Wire.rows(x, 0, 0));
        Due.sentence("FOUND: for each PORT at most 8 ROWS: an ADDRESS, a LINK ADDRESS, a time.");
        Due.sentence("(a new one, if there is none; with 8 that with the least time, of these the first made, goes).");
        InternetHouse y = Wire.pair(0);
        for (int i = 0; i < 8; i++) {
            Wire.known(y, 0, A1, far(i), 20 + i);
        }
        Due.is("8 ROWS", 8, () -> Wire.rows(y, 0, 0));
        y.run(1);
        Wire.known(y, 0, A1, far(0), 30);
        Due.is("a ROW that was made keeps its place", 30, () -> y.look(0, 0, 0, 2));
        Wire.known(y, 0, A1, far(8), 28);
        Due.is("still 8", 8, () -> Wire.rows(y, 0, 0));
        Due.is("the first stays", far(0), () -> y.look(0, 0, 0, 1));
        Due.is("the second went", far(2), () -> y.look(0, 0, 1, 1));
        Due.is("the new one is the last", far(8), () -> y.look(0, 0, 7, 1));
        Wire.frame(y, 1, Wire.find(1, 9, far(9), 0));
        y.address(1, Due.a(11, 0, 0, 1), 24);
        Wire.known(y, 1, Due.a(11, 0, 0, 1), Due.a(11, 0, 0, 2), 9);
        Due.is("each PORT has its own", 9, () -> Wire.rows(y, 0, 0));
    }

    private static int after(int units) {
        InternetHouse x = Wire.pair(0);
        Wire.known(x, 0, A1, A9, 77);
        Wire.runs(x, units);
        x.echo(0, A9, 0, 32);
        x.run(1);
        return x.seen(0, 0, 0);
    }

    private static void passing() {
        Due.sentence("If it is FOUND there not more than 60 UNITS ago: in a FRAME to that LINK ADDRESS.");
        Due.is("60 UNITS", 77, () -> after(60));
        Due.is("61 UNITS: an ASK", 255, () -> after(61));
        Due.sentence("each PORT has at most 4 ADDRESSES for which PACKETS WAIT, at most 3 PACKETS each: of more PACKETS the oldest is dropped; for a fifth ADDRESS the PACKET is dropped.");
        InternetHouse x = Wire.pair(0);
        for (int i = 0; i < 5; i++) {
            x.echo(0, far(i), 0, 32);
        }
        for (int i = 0; i < 3; i++) {
            x.echo(0, far(3), 0, 32);
        }
        x.run(7);
        Due.is("4 ASKS", 4, () -> x.count(0, 0));
        Wire.frame(x, 0, Wire.find(2, 44, far(4), A1));
        Due.is("for the fifth nothing WAITS", 0, () -> Wire.rows(x, 0, 0));
        Wire.frame(x, 0, Wire.find(2, 43, far(3), A1));
        x.run(8);
        Due.is("3 of 4 and the second ASKS of 3", 4 + 3 + 3, () -> x.count(0, 0));
        Due.is("the last", 7, () -> Wire.u16(Wire.data(x, 0, 0), 4));
        Due.is("in order", 6, () -> Wire.u16(Wire.data(x, 0, 1), 4));
        Due.is("the oldest (NUMBER 3) was dropped", 5, () -> Wire.u16(Wire.data(x, 0, 2), 4));
        Due.sentence("When an ADDRESS becomes KNOWN, what WAITS for it goes, in order, and it is WAITED for no more.");
        x.echo(0, far(4), 0, 32);
        Wire.frame(x, 0, Wire.find(2, 44, far(4), A1));
        Due.is("there is room for a fourth again", 2, () -> Wire.rows(x, 0, 0));
        Due.sentence("With the first PACKET that WAITS an ASK is sent (TO 255).");
        InternetHouse y = Wire.pair(0);
        for (int i = 0; i < 3; i++) {
            y.echo(0, A9, 0, 32);
        }
        y.run(7);
        Due.is("one", 1, () -> y.count(0, 0));
        Due.is("TO 255", 255, () -> y.seen(0, 0, 0));
        Due.sentence("8 UNITS since the latest ASK: an ASK more, if there were less than 3; else it is WAITED for no more, and its PACKETS are dropped, in order, each told as UNREACHABLE 1 to its source (as below).");
        y.run(1);
        Due.is("the second at 8", 8, () -> y.seen(0, 0, -2));
        y.run(8);
        Due.is("the third at 16", 16, () -> y.seen(0, 0, -2));
        y.run(8);
        Due.is("no fourth", 3, () -> y.count(0, 0));
        Due.is("3 ERRORS less, at 24", 3, () -> y.look(0, 15, 0, 5) - 1);
        Due.missing("they wait INSIDE", () -> y.look(0, 13, 0, 0));
        y.run(1);
        for (int i = 0; i < 3; i++) {
            int k = i;
            Due.is("told in order", k, () -> y.look(0, 13, k, 0));
            Due.is("UNREACHABLE", 3, () -> y.look(0, 13, k, 1));
            Due.is("1", 1, () -> y.look(0, 13, k, 2));
            Due.is("at 25", 25, () -> y.look(0, 13, k, 4));
        }
        Due.missing("no more", () -> y.look(0, 13, 3, 0));
    }

    private static void wrong() {
        Due.sentence("A PACKET that came in is WRONG (counted, and nothing) if it has less than 18 bytes, byte 0 divided by 4 is not 16, LENGTH is below 18 or above what there is (what is behind LENGTH is left out), or its SUM is not right.");
        InternetHouse x = Wire.pair(0);
        byte[] p = Due.packet(99, 9, 0, 0, A2, A1, new byte[0]);
        Due.inject(x, 0, Wire.cut(p, 0));
        Due.inject(x, 0, Wire.cut(p, 17));
        Due.is("0 and 17 bytes", 2, () -> x.count(0, 4));
        Due.inject(x, 0, p);
        Due.is("18 bytes", 1, () -> x.count(0, 9));
        int[] first = {63, 68, 0, 255, 64, 65, 66, 67};
        for (int f : first) {
            Due.inject(x, 0, headed(0, f, 18));
        }
        Due.is("byte 0", 2 + 4, () -> x.count(0, 4));
        Due.is("64 to 67", 1 + 4, () -> x.count(0, 9));
        Due.inject(x, 0, headed(2, 17, 18));
        Due.inject(x, 0, headed(2, 0, 18));
        Due.inject(x, 0, headed(2, 19, 18));
        Due.is("LENGTH 17, 0, 19 of 18", 6 + 3, () -> x.count(0, 4));
        Due.inject(x, 0, headed(2, 18, 30));
        Due.inject(x, 0, headed(2, 30, 30));
        Due.is("LENGTH 18, 30 of 30", 5 + 2, () -> x.count(0, 9));
        byte[] q = p.clone();
        q[9] ^= 1;
        Due.inject(x, 0, q);
        Due.is("SUM", 10, () -> x.count(0, 4));
        byte[] ping = Due.packet(1, 9, 0, 0, A2, A1, Due.control(8, 0, 5, 6, Due.bytes(1)));
        Wire.known(x, 0, A1, A2, 5);
        Due.inject(x, 0, Due.join(ping, new byte[9]));
        x.run(3);
        Due.is("what is behind LENGTH is left out", 9, () -> Wire.data(x, 0, 0).length);
        Due.sentence("THE SUM of bytes: of their words (two bytes each, a last single one with a 0 behind) the sum, of what is above 65535 always the upper part added to the lower 16 bits; 65535 less that.");
        int before = x.count(0, 4);
        byte[] ones = new byte[101];
        java.util.Arrays.fill(ones, (byte) 255);
        for (int n : new int[] {0, 1, 2, 3, 99, 100, 101}) {
            Due.inject(x, 0, Due.packet(17, 9, 0, 0, A2, A1, Due.datagram(65535, 5, Wire.cut(ones, n))));
        }
        Due.is("many words of 65535, odd and even", before, () -> x.count(0, 4));
        byte[] odd = Due.summed(Due.join(Due.bytes(0, 1, 0, 2, 0, 9, 0, 0), Due.bytes(7)), 6);
        odd[8] = 0;
        byte[] low = odd.clone();
        int s = Due.sum(Due.bytes(0, 1, 0, 2, 0, 9, 0, 0, 0, 7));
        low[6] = (byte) (s >> 8);
        low[7] = (byte) s;
        low[8] = 7;
        Due.inject(x, 0, Due.packet(17, 9, 0, 0, A2, A1, low));
        Due.is("the last single byte is the upper one", before + 1, () -> x.count(0, 4));
    }

    /** A PACKET of so many bytes with a byte of its head changed, and a right SUM. */
    private static byte[] headed(int at, int value, int bytes) {
        byte[] p = Wire.cut(Due.packet(99, 9, 0, 0, A2, A1, new byte[0]), bytes);
        p[at] = (byte) value;
        p[8] = 0;
        p[9] = 0;
        int s = Due.sum(Wire.cut(p, 18));
        p[8] = (byte) (s >> 8);
        p[9] = (byte) s;
        return p;
    }

    private static void ways() {
        InternetHouse x = Wire.pair(0);
        x.node(1);
        Due.sentence("A FIXED row of a NODE; COST 0 to 255; -1: the rows of this NET with this NEXT are gone: how many rows it has.");
        Due.missing("NODE 3", () -> x.route(3, 0, 0, A2, 1));
        Due.missing("NODE -1", () -> x.route(-1, 0, 0, A2, 1));
        Due.missing("NODE before numbers", () -> x.route(3, 0, 99, A2, 1));
        Due.argument("COST 256", () -> x.route(0, 0, 0, A2, 256));
        Due.argument("COST -2", () -> x.route(0, 0, 0, A2, -2));
        Due.is("COST 0", 1, () -> x.route(0, 0, 0, A2, 0));
        Due.is("COST 255", 2, () -> x.route(0, 0, 0, A2, 255));
        Due.is("another NEXT: none gone", 2, () -> x.route(0, 0, 0, A1, -1));
        Due.is("another NET: none gone", 2, () -> x.route(0, 0, 1, A2, -1));
        Due.is("both gone", 0, () -> x.route(0, 0, 0, A2, -1));
        Due.is("none of none", 0, () -> x.route(0, 0, 0, A2, -1));
        Due.sentence("IllegalArgumentException: also if other bits of the NET are not 0.");
        Due.argument("the lowest", () -> x.route(0, 1, 31, A2, 1));
        Due.argument("with -1, too", () -> x.route(0, 1, 31, A2, -1));
        Due.sentence("IllegalStateException: a BRIDGE, or there are 8.");
        Due.argument("numbers before the BRIDGE", () -> x.route(2, 1, 31, A2, 1));
        Due.state("BRIDGE", () -> x.route(2, 0, 0, A2, 1));
        Due.state("BRIDGE, to be gone", () -> x.route(2, 0, 0, A2, -1));
        for (int i = 1; i <= 8; i++) {
            int want = i;
            Due.is("row", want, () -> x.route(0, 0, 0, A2, want));
        }
        Due.state("there are 8", () -> x.route(0, 0, 0, A2, 1));
        Due.argument("numbers before room", () -> x.route(0, 0, 0, A2, 256));
        Due.is("-1 needs no room", 8, () -> x.route(0, 0, 0, A1, -1));
        Due.is("all gone", 0, () -> x.route(0, 0, 0, A2, -1));
        Due.sentence("those with most BITS; of these with the least KIND; of these with the least COST; of these, one for each NEXT and PORT, at most 4, by NEXT, then PORT: the one with the number s modulo how many, s being the sum of the eight bytes of FROM and TO.");
        x.route(0, Due.a(10, 0, 0, 0), 24, A9, 0);
        Due.is("KIND 0 before KIND 1 with COST 0", 256L * 0x0A000063L, () -> x.way(0, 0, Due.a(10, 0, 0, 99)));
        x.route(0, Due.a(10, 0, 0, 96), 27, A9, 255);
        Due.is("more BITS with COST 255", 256L * A9, () -> x.way(0, 0, Due.a(10, 0, 0, 99)));
        int[] next = {6, 5, 5, 7, 4};
        for (int k : next) {
            x.route(0, 0, 0, Due.a(10, 0, 0, k), 1);
        }
        int[] want = {4, 5, 6, 7, 4, 5};
        for (int s = 0; s < 6; s++) {
            int k = s;
            Due.is("4 of 4: " + s, want[k], () -> x.way(0, Due.a(1, 2, 0, 1), Due.a(0, k, 0, 0)) / 256 & 255);
        }
        x.route(0, 0, 0, A2 + 1, 1);
        Due.is("the first 4 of 5: 0", 3, () -> x.way(0, Due.a(255, 255, 255, 255), Due.a(0, 0, 0, 4)) / 256 & 255);
        Due.is("the first 4 of 5: 3", 6, () -> x.way(0, 0, Due.a(0, 255, 0, 0)) / 256 & 255);
        Due.sentence("1: each FIXED row (COST as told; at most 8), if its NEXT has a WAY of KIND 0: the PORT of that (the longest NET, of these the least PORT); a NEXT of 0 or 1 is a TUNNEL (PORT -1; only if there is that).");
        InternetHouse y = new InternetHouse();
        for (int i = 0; i < 4; i++) {
            y.node(i == 0 ? 2 : 0);
        }
        y.line(0, 4, 1, 255, 148);
        y.line(1, 8, 1, 255, 148);
        y.address(0, Due.a(10, 0, 0, 1), 24);
        y.address(1, Due.a(10, 0, 1, 1), 25);
        Due.is("NEXT in no NET of KIND 0", -1, () -> {
            y.route(0, 0, 0, Due.a(10, 0, 1, 129), 1);
            return y.way(0, 0, 7);
        });
        y.route(0, 0, 0, Due.a(10, 0, 1, 127), 1);
        Due.is("the last ADDRESS of the NET", 256L * Due.a(10, 0, 1, 127) + 1, () -> y.way(0, 0, 7));
        y.quality(1, 6, 1);
        Due.is("its LINE is CUT", -1, () -> y.way(0, 0, 7));
        y.route(0, 0, 0, 0, 3);
        y.route(0, 0, 0, 1, 2);
        Due.is("no TUNNEL", -1, () -> y.way(0, 0, 7));
        y.set(0, 12, 0, A9, 5);
        Due.is("TUNNEL 0", 200, () -> y.way(0, 0, 7));
        y.set(0, 12, 1, A9, 5);
        Due.is("TUNNEL 1", 256 + 201, () -> y.way(0, 0, 7));
        y.route(0, 0, 0, 2, 1);
        Due.is("2 is no TUNNEL", 256 + 201, () -> y.way(0, 0, 7));
        longestNext();
        Due.sentence("256 times NEXT (without a sign; KIND 0: TO), and the PORT (0 to 47; 200 + i: TUNNEL i); -1: none. IllegalStateException: a BRIDGE.");
        Due.missing("NODE 3", () -> x.way(3, 0, 0));
        Due.missing("NODE -1", () -> x.way(-1, 0, 0));
        Due.state("a BRIDGE", () -> x.way(2, 0, 0));
    }

    /** A PORT that BORROWS may have a NET within that of another one. */
    private static void longestNext() {
        for (int bits = 23; bits <= 25; bits++) {
            InternetHouse x = new InternetHouse();
            for (int i = 0; i < 3; i++) {
                x.node(0);
            }
            x.line(0, 4, 1, 255, 148);
            x.line(1, 8, 1, 255, 148);
            x.address(0, Due.a(10, 0, 0, 1), 24);
            x.set(0, 14, 1, 1, 0);
            x.run(1);
            int id = Wire.u16(Wire.data(x, 1, 0), 2);
            Due.inject(x, 1, Wire.lease(2, 1, id, Due.a(10, 0, 0, 5), bits, 100, A2, 0));
            Due.inject(x, 1, Wire.lease(4, 1, id, Due.a(10, 0, 0, 5), bits, 100, A2, Due.a(10, 0, 0, 7)));
            int want = bits > 24 ? 1 : 0;
            Due.is("of 24 and " + bits + " BITS", 256L * Due.a(10, 0, 0, 7) + want, () -> x.way(0, 0, 7));
        }
    }

    private static void names() {
        Due.sentence("NAME is the NODE's (0 at first, 1 more with each, 16 bits), HOPS 32, CLASS 0, PIECE 0");
        InternetHouse x = new InternetHouse();
        x.node(2);
        for (int i = 0; i < 4; i++) {
            x.node(0);
            x.line(i, 4 + 4 * i, 1, 255, 148);
            x.address(i, Due.a(10, 0, i, 1), 24);
            x.set(0, 16, Due.a(224, 0, 0, i), 1, 0);
            x.set(0, 9, Due.a(11, 0, 0, i), 7, 0);
        }
        Due.is("0 at first", 0, () -> x.look(0, 15, 0, 6));
        x.set(0, 5, 1, 0, 0);
        x.set(0, 6, 1, 0, 0);
        x.set(0, 8, 5, 0, 0);
        Wire.runs(x, 120);
        long before = x.look(0, 15, 0, 6);
        Wire.runs(x, 60);
        long step = x.look(0, 15, 0, 6) - before;
        before += step;
        int calls = 40;
        long most = 0;
        while (before + step <= 65535 && calls < 500) {
            Wire.runs(x, 60);
            calls += 2;
            before += step;
        }
        Wire.runs(x, 60);
        long want = before + step - 65536;
        Due.is("it wraps", want, () -> x.look(0, 15, 0, 6));
        int used = calls;
        Due.is("within 512 calls", 1, () -> used < 500 ? 1 : 0);
        Due.is("more than one in a UNIT", 1, () -> step > 60 ? 1 : 0);
        Due.sentence("Without a WAY it is UNREACHABLE 0.");
        Due.sentence("(by THE WAY with FROM 0 for s; without a WAY, or into a TUNNEL, that of the least PORT with one, or 0), if not said otherwise.");
        InternetHouse y = new InternetHouse();
        y.node(0);
        y.node(0);
        y.echo(0, A9, 0, 32);
        y.run(2);
        Due.missing("no ADDRESS: FROM 0, told to nobody", () -> y.look(0, 13, 0, 0));
        Due.is("no ERROR", 6, () -> y.look(0, 15, 0, 5));
        y.address(2, Due.a(10, 0, 0, 2), 24);
        y.address(3, Due.a(11, 0, 0, 2), 24);
        y.echo(0, A9, 0, 32);
        y.run(1);
        Due.is("FROM the least PORT's", Due.a(10, 0, 0, 2), () -> y.look(0, 13, 0, 3));
        Due.is("UNREACHABLE 0", 300, () -> 100 * y.look(0, 13, 0, 1) + y.look(0, 13, 0, 2));
        Due.sentence("it waits INSIDE (at most 8; more are dropped) and comes in (from no PORT) first of all at the next CLOCK");
        InternetHouse z = Wire.pair(0);
        for (int i = 0; i < 9; i++) {
            z.echo(0, A1, 0, 1);
        }
        Due.is("all used a NAME", 9, () -> z.look(0, 15, 0, 6));
        z.run(1);
        Due.is("8 came in", 8, () -> z.count(0, 9));
        z.run(1);
        Due.is("their 8 ANSWERS, too", 16, () -> z.count(0, 9));
        Due.is("the ninth was dropped", 7, () -> z.look(0, 13, 7, 0));
        z.run(5);
        Due.is("it does not come later", 16, () -> z.count(0, 9));
        Due.is("nothing went over a LINE", 0, () -> z.count(0, 0));
    }

    private static void hops() {
        Due.sentence("4. HOSTS drop it; ROUTERS: if HOPS is 1 or 0 it is OVER 0; HOPS becomes 1 less (SUM anew); without a WAY it is UNREACHABLE 0; it is REWRITTEN; it goes by its WAY.");
        InternetHouse x = Wire.chain(148);
        Wire.known(x, 4, A2, A1, 1);
        Wire.known(x, 5, Wire.B1, Wire.B2, 9);
        x.run(3);
        int sent = x.count(1, 0);
        int[] type = {11, 11};
        for (int h = 0; h < 2; h++) {
            Due.inject(x, 4, Due.packet(99, h, 0, 0, A1, Wire.B2, new byte[8]));
            x.run(2);
            int k = h;
            Due.is("HOPS " + h + ": OVER 0", type[k], () -> Wire.data(x, 4, 0)[0]);
            Due.is("HOPS as they were", k, () -> Wire.data(x, 4, 0)[8 + 3]);
            Due.is("not passed", 0, () -> x.count(1, 8));
        }
        Due.inject(x, 4, Due.packet(99, 2, 0, 0, A1, Wire.B2, new byte[8]));
        x.run(2);
        Due.is("HOPS 2: passed", 1, () -> x.count(1, 8));
        Due.is("with 1", 1, () -> x.seen(5, 0, 6));
        Due.is("3 were sent", sent + 3, () -> x.count(1, 0));
        Due.inject(x, 4, Due.packet(99, 255, 0, 0, A1, Due.a(99, 0, 0, 1), new byte[8]));
        x.run(2);
        Due.is("UNREACHABLE 0", 3, () -> Wire.data(x, 4, 0)[0]);
        Due.is("HOPS 1 less", 254, () -> Wire.data(x, 4, 0)[8 + 3] & 255);
        Due.inject(x, 0, Due.packet(99, 9, 0, 0, A1, Wire.B2, new byte[8]));
        int before = x.count(0, 0);
        x.run(2);
        Due.is("a HOST drops it", before, () -> x.count(0, 0));
        Due.sentence("(not WRONG): 1. FILTERS; 2. REWRITTEN back; 3. TO is an ADDRESS of the NODE or ALL: it is TAKEN");
        int taken = x.count(0, 9);
        Due.inject(x, 0, Due.packet(99, 9, 0, 0, A2, -1, new byte[8]));
        Due.inject(x, 0, Due.packet(99, 0, 0, 0, A2, A1, new byte[8]));
        Due.inject(x, 0, Due.packet(99, 9, 0, 0, A2, -2, new byte[8]));
        Due.is("ALL, its own with HOPS 0; not -2", taken + 2, () -> x.count(0, 9));
    }

    /** DATA bytes and PIECE of what the ROUTER sent of an ECHO with so many bytes. */
    private static String piecesOf(int size, int bytes) {
        InternetHouse x = Wire.chain(size);
        Wire.known(x, 5, Wire.B1, Wire.B2, 9);
        Wire.known(x, 0, A1, A2, 5);
        x.run(2);
        x.capture(1, 1);
        x.echo(0, Wire.B2, bytes, 32);
        x.run(7);
        x.capture(1, 2);
        String out = Due.out(x);
        StringBuilder s = new StringBuilder();
        for (int at = 0; at < out.length(); at += 6 + out.charAt(at + 5)) {
            if (out.charAt(at + 4) == 5 && out.charAt(at + 8) == 3) {
                int piece = out.charAt(at + 6 + 3 + 6);
                s.append(out.charAt(at + 5) - 23).append(piece >= 128 ? "+" : "").append('@').append(piece & 31).append(' ');
            }
        }
        return s.toString();
    }

    private static void pieces() {
        Due.sentence("By a LINE whose SIZE is below LENGTH: if it must stay WHOLE it is UNREACHABLE 4; else it is cut: pieces of DATA, each with the same first 18 bytes (but LENGTH, MORE, PLACE, SUM), each of the most bytes that fit in SIZE and that 8 divides, the last of what is left behind these (1 to as many);");
        Due.said("LENGTH is SIZE", piecesOf(60, 34), "42@0 ");
        Due.said("1 more", piecesOf(60, 35), "40+@0 3@5 ");
        Due.said("1 is left", piecesOf(60, 73), "40+@0 40+@5 1@10 ");
        Due.said("as many are left", piecesOf(60, 72), "40+@0 40@5 ");
        Due.said("SIZE 65: 40 fit", piecesOf(65, 72), "40+@0 40@5 ");
        Due.said("SIZE 66: 48 fit", piecesOf(66, 72), "48+@0 32@6 ");
        Due.said("SIZE 125", piecesOf(125, 100), "104+@0 4@13 ");
        Due.said("SIZE 126", piecesOf(126, 100), "108@0 ");
        InternetHouse w = Wire.chain(60);
        Wire.known(w, 4, A2, A1, 1);
        w.run(2);
        Due.inject(w, 4, Due.packet(99, 9, 0, 64, A1, Wire.B2, new byte[42]));
        Due.is("WHOLE, LENGTH is SIZE", 6, () -> w.look(1, 15, 0, 5));
        Due.inject(w, 4, Due.packet(99, 9, 0, 64, A1, Wire.B2, new byte[43]));
        Due.is("WHOLE, 1 more", 5, () -> w.look(1, 15, 0, 5));
        w.run(2);
        Due.is("UNREACHABLE 4", 304, () -> 100 * Wire.data(w, 4, 0)[0] + Wire.data(w, 4, 0)[1]);
        Due.is("the SIZE that did not fit", 60, () -> Wire.u16(Wire.data(w, 4, 0), 4));
        Due.sentence("MORE in all but the last, which has it if the PACKET had (PLACES modulo 32).");
        InternetHouse x = Wire.chain(60);
        Wire.known(x, 5, Wire.B1, Wire.B2, 9);
        x.run(2);
        Due.inject(x, 4, Due.packet(99, 9, 0, 128 + 28, A1, Wire.B2, new byte[48]));
        x.run(2);
        Due.is("the first at 28", 128 + 28, () -> x.seen(5, 1, 9));
        Due.is("the last at 33: 1, with MORE", 128 + 1, () -> x.seen(5, 0, 9));
        Due.is("8 bytes", 23 + 8, () -> x.seen(5, 0, -1));
        Due.inject(x, 4, Due.packet(99, 9, 0, 31, A1, Wire.B2, new byte[43]));
        x.run(2);
        Due.is("the first at 31, MORE", 128 + 31, () -> x.seen(5, 1, 9));
        Due.is("the last at 36: 4, without", 4, () -> x.seen(5, 0, 9));
    }

    private static int overlaps(byte[]... pieces) {
        InternetHouse x = Wire.pair(0);
        for (byte[] p : pieces) {
            Due.inject(x, 0, p);
        }
        return 10 * x.count(0, 6) + x.count(0, 9);
    }

    private static byte[] at(int place, boolean more, int n) {
        return Wire.piece(7, place, more, n);
    }

    private static void joining() {
        Due.sentence("a piece with MORE whose DATA 8 does not divide, or without DATA, is dropped;");
        Due.is("7 bytes", 1, () -> overlaps(at(0, true, 7), at(0, true, 8), at(1, false, 1)));
        Due.is("9 bytes", 1, () -> overlaps(at(0, true, 9), at(0, true, 8), at(1, false, 1)));
        Due.is("none, with MORE", 1, () -> overlaps(at(0, true, 0), at(0, true, 8), at(1, false, 1)));
        Due.is("none, the last", 1, () -> overlaps(at(0, true, 8), at(1, false, 0), at(1, false, 1)));
        Due.is("none, the last: the end is not known", 0, () -> overlaps(at(0, true, 8), at(1, false, 0)));
        Due.is("PLACE 0 without MORE is no piece", 1, () -> overlaps(at(0, false, 0)));
        Due.sentence("one that has a byte that is there already, or one beyond 130, or beyond the end of a last piece, or is a last one that ends before a byte that is there: the JOINING is dropped (counted as OVERLAPS).");
        Due.is("the same again", 10, () -> overlaps(at(0, true, 8), at(0, true, 8)));
        Due.is("its last byte", 10, () -> overlaps(at(1, true, 8), at(0, true, 16)));
        Due.is("next to it", 0, () -> overlaps(at(1, true, 8), at(0, true, 8)));
        Due.is("up to 130", 1, () -> overlaps(at(0, true, 128), at(16, false, 2)));
        Due.is("131", 10, () -> overlaps(at(0, true, 128), at(16, false, 3)));
        Due.is("136, with MORE", 10, () -> overlaps(at(16, true, 8)));
        Due.is("128, with MORE", 0, () -> overlaps(at(15, true, 8)));
        Due.is("the greatest PLACE", 10, () -> overlaps(at(31, false, 1)));
        Due.is("up to the end of the last", 1, () -> overlaps(at(1, false, 8), at(0, true, 8)));
        Due.is("beyond the end of the last", 10, () -> overlaps(at(1, false, 7), at(2, true, 8)));
        Due.is("it ends before a byte that is there", 10, () -> overlaps(at(2, true, 8), at(1, false, 7)));
        Due.is("it ends before one that is far", 10, () -> overlaps(at(3, true, 8), at(1, false, 8)));
        Due.is("it ends behind all that is there", 0, () -> overlaps(at(3, true, 8), at(4, false, 1)));
        Due.is("a second last one, shorter", 10, () -> overlaps(at(3, false, 8), at(1, false, 8)));
        Due.is("a second last one, longer", 10, () -> overlaps(at(1, false, 8), at(3, false, 8)));
        Due.is("dropped: the rest begins anew", 10, () -> overlaps(at(0, true, 8), at(0, true, 8), at(1, false, 8)));
        Due.is("dropped: all of it once more", 11, () -> overlaps(at(0, true, 8), at(0, true, 8), at(0, true, 8), at(1, false, 8)));
        Due.sentence("If all bytes up to the end of the last piece are there, it is TAKEN as one, with the first 18 bytes of the piece of PLACE 0 (LENGTH, PIECE 0).");
        byte[][] parts = {at(0, true, 8), at(1, true, 16), at(3, false, 1)};
        for (int i = 0; i < 6; i++) {
            int a = i / 2;
            int b = (a + 1 + i % 2) % 3;
            Due.is("two of three", 0, () -> overlaps(parts[a], parts[b]));
            Due.is("in any order", 1, () -> overlaps(parts[a], parts[b], parts[3 - a - b]));
        }
        InternetHouse whole = Wire.pair(0);
        Wire.known(whole, 0, A1, A2, 5);
        whole.run(2);
        byte[] gram = Due.datagram(9, 5, new byte[9]);
        Due.inject(whole, 0, Due.packet(17, 3, 7, 1, A2, A1, java.util.Arrays.copyOfRange(gram, 8, 17)));
        Due.inject(whole, 0, Due.packet(17, 4, 7, 128, A2, A1, Wire.cut(gram, 8)));
        whole.run(1);
        byte[] told = Wire.data(whole, 0, 0);
        Due.is("UNREACHABLE 3 of it", 303, () -> 100 * told[0] + told[1]);
        Due.is("LENGTH", 18 + 17, () -> told[8 + 2]);
        Due.is("HOPS of the piece of PLACE 0", 4, () -> told[8 + 3]);
        Due.is("PIECE 0", 0, () -> told[8 + 6]);
        Due.sentence("TAKEN pieces (MORE, or a PLACE above 0) are JOINED: by FROM, TO, NAME, PROTOCOL, at most 4 JOININGS in a NODE (for a fifth the one begun first is dropped);");
        InternetHouse x = Wire.pair(0);
        for (int i = 0; i < 4; i++) {
            Due.inject(x, 0, Wire.piece(i, 0, true, 8));
        }
        Due.inject(x, 0, Wire.piece(1, 1, true, 8));
        Due.inject(x, 0, Wire.piece(0, 2, true, 8));
        for (int i = 0; i < 4; i++) {
            Due.inject(x, 0, Wire.piece(i, i < 2 ? i == 0 ? 1 : 2 : 1, true, 8));
            Due.inject(x, 0, Wire.piece(i, 3, false, 1));
        }
        Due.is("4 at once: 2 are whole by now", 2, () -> x.count(0, 9));
        Due.inject(x, 0, Wire.piece(8, 0, true, 8));
        Due.inject(x, 0, Wire.piece(9, 0, true, 8));
        Due.inject(x, 0, Wire.piece(10, 0, true, 8));
        Due.inject(x, 0, Wire.piece(2, 2, true, 8));
        Due.is("the first of five was dropped", 2, () -> x.count(0, 9));
        Due.inject(x, 0, Wire.piece(10, 1, false, 8));
        Due.is("the fifth is there", 3, () -> x.count(0, 9));
        InternetHouse y = Wire.pair(0);
        Due.inject(y, 0, Due.packet(99, 9, 7, 128, A2, A1, new byte[8]));
        Due.inject(y, 0, Due.packet(98, 9, 7, 1, A2, A1, new byte[8]));
        Due.inject(y, 0, Due.packet(99, 9, 263, 1, A2, A1, new byte[8]));
        Due.inject(y, 0, Due.packet(99, 9, 7, 1, A9, A1, new byte[8]));
        Due.is("another PROTOCOL, NAME, FROM", 0, () -> y.count(0, 9));
        Due.inject(y, 0, Due.packet(99, 9, 7, 1, A2, A1, new byte[8]));
        Due.is("the same", 1, () -> y.count(0, 9));
        Due.inject(y, 0, Due.packet(99, 9, 9, 128, A2, A1, new byte[8]));
        Due.inject(y, 0, Due.packet(99, 9, 9, 1, A2, -1, new byte[8]));
        Due.is("another TO", 1, () -> y.count(0, 9));
        Due.sentence("At CLOCK each JOINING (the first begun first) begun 20 UNITS ago or more is dropped; if the piece of PLACE 0 is there, that is OVER 1.");
        for (int late = 0; late < 2; late++) {
            InternetHouse z = Wire.pair(0);
            z.run(3);
            Due.inject(z, 0, Wire.piece(5, 1, false, 8));
            z.run(19 + late);
            Due.inject(z, 0, Wire.piece(5, 0, true, 8));
            int want = late == 0 ? 1 : 0;
            Due.is(19 + late + " UNITS", want, () -> z.count(0, 9));
        }
        InternetHouse u = Wire.pair(0);
        Wire.known(u, 0, A1, A2, 5);
        Due.inject(u, 0, Wire.piece(5, 1, false, 8));
        Due.inject(u, 0, Wire.piece(6, 0, true, 8));
        u.run(19);
        Due.is("19 UNITS: the ANSWER of FINDING alone", 1, () -> u.count(0, 0));
        u.run(1);
        Due.is("one OVER", 2, () -> u.count(0, 0));
        Due.is("OVER 1", 1101, () -> 100 * Wire.data(u, 0, 0)[0] + Wire.data(u, 0, 0)[1]);
        Due.is("of the piece of PLACE 0", 6, () -> Wire.u16(Wire.data(u, 0, 0), 8 + 4));
    }

    /** How many ERRORS are less when these come to ROUTER 1 at PORT 4. */
    private static long errors(byte[]... packets) {
        InternetHouse x = Wire.chain(148);
        for (byte[] p : packets) {
            Due.inject(x, 4, p);
        }
        return 6 - x.look(1, 15, 0, 5);
    }

    private static byte[] lost(int protocol, int piece, int from, int to, byte[] data) {
        return Due.packet(protocol, 9, 0, piece, from, to, data);
    }

    private static void controls() {
        int nowhere = Due.a(99, 0, 0, 1);
        Due.sentence("One that is TAKEN with less than 8 bytes or a wrong SUM is WRONG.");
        InternetHouse x = Wire.pair(0);
        Due.inject(x, 0, Due.packet(1, 9, 0, 0, A2, A1, new byte[0]));
        Due.inject(x, 0, Due.packet(1, 9, 0, 0, A2, A1, Due.summed(new byte[7], 2)));
        Due.is("0 and 7 bytes", 2, () -> x.count(0, 4));
        Due.inject(x, 0, Due.packet(1, 9, 0, 0, A2, A1, Due.summed(new byte[8], 2)));
        Due.is("8 bytes", 2, () -> x.count(0, 4));
        Due.is("an ANSWER", 0, () -> x.look(0, 13, 0, 1));
        Due.inject(x, 0, Due.packet(1, 9, 0, 0, A2, A1, new byte[8]));
        Due.is("SUM", 3, () -> x.count(0, 4));
        Due.is("all were TAKEN", 4, () -> x.count(0, 9));
        Due.sentence("but not if FROM is 0, ALL or a GROUP, or TO is ALL or a GROUP, PLACE is above 0, or it is itself a CONTROL with TYPE 3 or 11;");
        byte[] d = new byte[8];
        Due.is("ordinary", 1, () -> errors(lost(99, 0, A1, nowhere, d)));
        Due.is("FROM 0", 0, () -> errors(lost(99, 0, 0, nowhere, d)));
        Due.is("FROM ALL", 0, () -> errors(lost(99, 0, -1, nowhere, d)));
        Due.is("FROM -2", 1, () -> errors(lost(99, 0, -2, nowhere, d)));
        Due.is("FROM a GROUP", 0, () -> errors(lost(99, 0, Wire.GROUP, nowhere, d)));
        Due.is("TO ALL", 0, () -> errors(lost(17, 0, A1, -1, Due.datagram(5, 5, d))));
        Due.is("TO the NODE", 1, () -> errors(lost(17, 0, A1, A2, Due.datagram(5, 5, d))));
        Due.is("TO a GROUP", 0, () -> errors(lost(17, 0, A1, Wire.GROUP, Due.datagram(5, 5, d))));
        Due.is("PLACE 0, MORE", 1, () -> errors(lost(99, 128, A1, nowhere, d)));
        Due.is("PLACE 1", 0, () -> errors(lost(99, 1, A1, nowhere, d)));
        Due.is("PLACE 31, MORE", 0, () -> errors(lost(99, 128 + 31, A1, nowhere, d)));
        int[] type = {0, 2, 3, 4, 8, 10, 11, 12};
        int[] told = {1, 1, 0, 1, 1, 1, 0, 1};
        for (int i = 0; i < type.length; i++) {
            int k = i;
            Due.is("CONTROL of TYPE " + type[k], told[k], () -> errors(lost(1, 0, A1, nowhere, Due.bytes(type[k]))));
            Due.is("PROTOCOL 99 that begins so", 1, () -> errors(lost(99, 0, A1, nowhere, Due.bytes(type[k]))));
        }
        Due.is("CONTROL without DATA", 1, () -> errors(lost(1, 0, A1, nowhere, new byte[0])));
        Due.sentence("and only if the NODE has ERRORS left: 6 at first, 1 more at each CLOCK, 6 at most, 1 less with each that is sent.");
        InternetHouse y = Wire.chain(148);
        Wire.known(y, 4, A2, A1, 1);
        y.run(3);
        Due.is("6 at most", 6, () -> y.look(1, 15, 0, 5));
        for (int i = 0; i < 8; i++) {
            Due.inject(y, 4, lost(99, 0, A1, nowhere, d));
        }
        Due.is("none left", 0, () -> y.look(1, 15, 0, 5));
        int before = y.count(1, 0);
        y.run(8);
        Due.is("6 were sent", before + 6, () -> y.count(1, 0));
        Due.is("6 at most", 6, () -> y.look(1, 15, 0, 5));
        for (int i = 0; i < 6; i++) {
            Due.inject(y, 4, lost(99, 0, A1, nowhere, d));
        }
        y.run(1);
        Due.is("1 more at CLOCK", 1, () -> y.look(1, 15, 0, 5));
        for (int i = 0; i < 2; i++) {
            Due.inject(y, 4, lost(99, 0, A1, nowhere, d));
        }
        Due.is("the second has none left", 0, () -> y.look(1, 15, 0, 5));
        Due.sentence("the first 26 bytes of the PACKET (as it is then)");
        int[] lengths = {18, 25, 26, 27, 148};
        for (int n : lengths) {
            InternetHouse z = Wire.chain(148);
            Wire.known(z, 4, A2, A1, 1);
            Due.inject(z, 4, lost(99, 0, A1, nowhere, new byte[n - 18]));
            z.run(3);
            Due.is(n + " bytes", 8 + Math.min(26, n), () -> Wire.data(z, 4, 0).length);
        }
    }

    private static byte[] quote(int type, int code, int size, byte[] quoted) {
        return Due.packet(1, 9, 0, 0, A2, A1, Due.control(type, code, size, 0, quoted));
    }

    private static void quotes() {
        Due.sentence("tells of the PACKET quoted there, if that has 18 bytes or more, and FROM is an ADDRESS of the NODE:");
        byte[] mine = Due.packet(99, 9, 0, 0, A1, A9, new byte[8]);
        byte[] other = Due.packet(99, 9, 0, 0, A2, A9, new byte[8]);
        InternetHouse x = Wire.pair(0);
        Due.inject(x, 0, quote(3, 4, 100, Wire.cut(mine, 17)));
        Due.inject(x, 0, quote(3, 4, 100, other));
        Due.inject(x, 0, quote(3, 3, 100, mine));
        Due.inject(x, 0, quote(3, 5, 100, mine));
        Due.inject(x, 0, quote(11, 4, 100, mine));
        Due.is("17 bytes, another FROM, not 3, 4", 0, () -> Wire.rows(x, 0, 14));
        Due.inject(x, 0, quote(3, 4, 100, Wire.cut(mine, 18)));
        Due.is("18 bytes", 1, () -> Wire.rows(x, 0, 14));
        Due.sentence("3, 4: PATHS (at most 4, the one made first goes) have its TO with the SIZE (at least 60) as long as TIME is below what it was then + 100 (its till when)");
        int[] size = {0, 59, 60, 61, 148, 65535};
        int[] kept = {60, 60, 60, 61, 148, 65535};
        for (int i = 0; i < size.length; i++) {
            Due.inject(x, 0, quote(3, 4, size[i], mine));
            int k = i;
            Due.is("SIZE " + size[k], kept[k], () -> x.look(0, 14, 0, 1));
            Due.is("one ROW", 1, () -> Wire.rows(x, 0, 14));
        }
        for (int i = 0; i < 4; i++) {
            Due.inject(x, 0, quote(3, 4, 100, Due.packet(99, 9, 0, 0, A1, far(i), new byte[0])));
            int want = Math.min(4, i + 2);
            Due.is("at most 4", want, () -> Wire.rows(x, 0, 14));
        }
        Due.is("the one made first went", far(0), () -> x.look(0, 14, 0, 0));
        x.run(10);
        Due.inject(x, 0, quote(3, 4, 99, Due.packet(99, 9, 0, 0, A1, far(1), new byte[0])));
        Wire.runs(x, 89);
        Due.is("99 UNITS", 4, () -> Wire.rows(x, 0, 14));
        x.run(1);
        Due.is("100 UNITS", 1, () -> Wire.rows(x, 0, 14));
        Due.is("the one of 10 UNITS later", 110, () -> x.look(0, 14, 0, 2));
        x.run(9);
        Due.is("99 UNITS", 99, () -> x.look(0, 14, 0, 1));
        x.run(1);
        Due.is("100 UNITS", 0, () -> Wire.rows(x, 0, 14));
        Due.sentence("own PACKETS to it (by THE WAY) are not longer: streams make shorter segments, other ones are cut here.");
        for (int bytes = 34; bytes < 36; bytes++) {
            for (int units = 99; units < 101; units++) {
                InternetHouse y = Wire.pair(0);
                Due.inject(y, 0, quote(3, 4, 60, mine));
                Wire.runs(y, units - 2);
                Wire.known(y, 0, A1, A9, 77);
                y.run(2);
                y.echo(0, A9, bytes, 32);
                y.run(3);
                int want = bytes == 35 && units == 99 ? 2 : 1;
                Due.is(26 + bytes + " bytes after " + units + " UNITS", 1 + want, () -> y.count(0, 0));
            }
        }
        Due.sentence("If it is an ECHO (26 bytes are quoted) it is told (the first NUMBER quoted, TYPE, CODE, FROM of the CONTROL, TIME)");
        byte[] echo = Due.packet(1, 9, 0, 0, A1, A9, Due.control(8, 0, 777, 0, new byte[0]));
        byte[] answer = Due.packet(1, 9, 0, 0, A1, A9, Due.control(0, 0, 777, 0, new byte[0]));
        InternetHouse z = Wire.pair(0);
        Due.inject(z, 0, quote(11, 0, 0, Wire.cut(echo, 25)));
        Due.inject(z, 0, quote(11, 0, 0, answer));
        Due.is("25 bytes, no ECHO", 0, () -> Wire.rows(z, 0, 13));
        Due.inject(z, 0, quote(11, 9, 0, echo));
        Due.is("26 bytes", 777, () -> z.look(0, 13, 0, 0));
        Due.is("TYPE and CODE", 1109, () -> 100 * z.look(0, 13, 0, 1) + z.look(0, 13, 0, 2));
        Due.sentence("13 answers to ECHOS (the latest 8, the first first): NUMBER, TYPE, CODE, FROM, TIME;");
        for (int i = 0; i < 8; i++) {
            Due.is("at most 8", Math.min(8, i + 1), () -> Wire.rows(z, 0, 13));
            Due.inject(z, 0, Due.packet(1, 9, 0, 0, A9, A1, Due.control(0, 3, i, 0, new byte[0])));
        }
        Due.is("8", 8, () -> Wire.rows(z, 0, 13));
        Due.is("the first went", 0, () -> z.look(0, 13, 0, 0));
        Due.is("the latest", 7, () -> z.look(0, 13, 7, 0));
        Due.is("CODE of an ANSWER", 3, () -> z.look(0, 13, 7, 2));
        Due.is("FROM", A9, () -> z.look(0, 13, 7, 3));
    }

    private static void echoes() {
        InternetHouse x = Wire.pair(0);
        x.node(1);
        Due.sentence("An ECHO is SENT to an ADDRESS, with bytes (0 to 100; byte i is i), HOPS (1 to 255), NUMBERS: how many ECHOS this NODE sent before (16 bits), and bytes: the first of these.");
        Due.missing("NODE 3", () -> x.echo(3, A2, 0, 1));
        Due.missing("NODE before numbers", () -> x.echo(-1, A2, 101, 1));
        Due.argument("bytes -1", () -> x.echo(0, A2, -1, 1));
        Due.argument("bytes 101", () -> x.echo(0, A2, 101, 1));
        Due.argument("HOPS 0", () -> x.echo(0, A2, 0, 0));
        Due.argument("HOPS 256", () -> x.echo(0, A2, 0, 256));
        Wire.known(x, 0, A1, A2, 5);
        Due.is("the least", 0, () -> x.echo(0, A2, 0, 1));
        Due.is("the greatest", 1, () -> x.echo(0, A2, 100, 255));
        x.run(3);
        byte[] big = new byte[100];
        for (int i = 0; i < 100; i++) {
            big[i] = (byte) i;
        }
        byte[] want = Due.frame(5, 1, 3, Due.packet(1, 255, 1, 0, A1, A2, Due.control(8, 0, 1, 100, big)));
        Due.is("all bytes", 1, () -> java.util.Arrays.equals(want, Wire.sent(x, 0, 0)) ? 1 : 0);
        Due.sentence("IllegalStateException: a BRIDGE, or the NODE is down.");
        Due.argument("numbers before the BRIDGE", () -> x.echo(2, A2, 0, 0));
        Due.state("a BRIDGE", () -> x.echo(2, A2, 0, 1));
        x.set(0, 0, 0, 0, 0);
        Due.state("down", () -> x.echo(0, A2, 0, 1));
        x.set(0, 0, 1, 0, 0);
        Due.is("what was refused is not counted; down does not count anew", 2, () -> x.echo(0, A2, 0, 1));
        Due.sentence("8 those for which a ROUTER that was to pass them on had a WAY (too long ones, too; not those that were not REWRITTEN; no GROUPS), 9 TAKEN (those that were JOINED once).");
        InternetHouse y = Wire.chain(60);
        Due.inject(y, 4, Due.packet(99, 9, 0, 64, A1, Wire.B2, new byte[43]));
        Due.is("too long", 1, () -> y.count(1, 8));
        Due.inject(y, 4, Due.packet(99, 9, 0, 0, A1, Due.a(99, 0, 0, 1), new byte[8]));
        Due.is("no WAY", 1, () -> y.count(1, 8));
        Due.inject(y, 4, Due.packet(99, 1, 0, 0, A1, Wire.B2, new byte[8]));
        Due.is("OVER", 1, () -> y.count(1, 8));
        Due.inject(y, 4, Due.packet(99, 9, 0, 0, A1, Wire.GROUP, new byte[8]));
        Due.is("a GROUP", 1, () -> y.count(1, 8));
        y.echo(1, Wire.B2, 0, 32);
        Due.is("its own", 1, () -> y.count(1, 8));
        Due.inject(y, 4, Due.packet(99, 9, 3, 128, A1, A2, new byte[8]));
        Due.inject(y, 4, Due.packet(99, 9, 3, 129, A1, A2, new byte[8]));
        Due.is("pieces", 0, () -> y.count(1, 9));
        Due.inject(y, 4, Due.packet(99, 9, 3, 2, A1, A2, new byte[8]));
        Due.is("JOINED once", 1, () -> y.count(1, 9));
    }

    public static void main(String[] args) {
        addresses();
        finding();
        passing();
        wrong();
        ways();
        names();
        hops();
        pieces();
        joining();
        controls();
        quotes();
        echoes();
        Due.end("BoundsPacketTest");
    }
}
