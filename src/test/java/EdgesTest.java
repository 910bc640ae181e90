/** Edges of many promises, mostly by PACKETS that are injected. */
public final class EdgesTest {
    private static final int A1 = Due.a(10, 0, 0, 1);
    private static final int A2 = Due.a(10, 0, 0, 2);

    private static InternetHouse pair(int kind) {
        InternetHouse x = new InternetHouse();
        x.node(kind);
        x.node(kind);
        x.line(0, 4, 1, 255, 148);
        x.address(0, A1, 24);
        x.address(4, A2, 24);
        return x;
    }

    private static void equalWays() {
        InternetHouse x = pair(0);
        int[] next = {9, 4, 4, 7, 5, 3, 8};
        for (int k : next) {
            x.route(0, 0, 0, Due.a(10, 0, 0, k), 1);
        }
        // the first four by NEXT: 3, 4, 5, 7
        int[] want = {3, 4, 5, 7, 3};
        for (int s = 0; s < 5; s++) {
            int k = s;
            Due.is("s " + k, want[k], () -> x.way(0, 0, Due.a(0, 0, 0, k)) / 256 & 255);
            Due.is("s by FROM " + k, want[k], () -> x.way(0, Due.a(4, 0, k, 0), Due.a(8, 0, 0, 0)) / 256 & 255);
        }
    }

    private static void overBridges() {
        InternetHouse x = new InternetHouse();
        x.node(0);
        x.node(1);
        x.node(1);
        x.node(0);
        x.line(0, 4, 1, 255, 148);
        x.line(5, 8, 1, 255, 148);
        x.line(9, 12, 1, 255, 148);
        x.address(0, A1, 24);
        x.address(12, A2, 24);
        Due.is("nothing FORWARDS", -1, () -> x.map(0, 0, A2));
        x.run(10);
        Due.is("3 LINES", 3, () -> x.map(0, 0, A2));
        x.set(3, 0, 0, 0, 0);
        Due.is("down", -1, () -> x.map(0, 0, A2));
        x.set(3, 0, 1, 0, 0);
        x.echo(0, A2, 0, 32);
        x.run(40);
        Due.is("answered", A2, () -> x.look(0, 13, 0, 3));
        x.set(2, 0, 0, 0, 0);
        Due.is("BRIDGE is down", -1, () -> x.map(0, 0, A2));
    }

    private static void manyThings() {
        InternetHouse x = pair(0);
        for (int i = 0; i < 9; i++) {
            x.echo(0, A1, 0, 32);
        }
        x.run(3);
        Due.is("8 INSIDE", 7, () -> x.look(0, 13, 7, 0));
        x.echo(0, A1, 0, 32);
        x.run(3);
        Due.is("the latest 8", 9, () -> x.look(0, 13, 7, 0));
        Due.is("the latest 8", 1, () -> x.look(0, 13, 0, 0));
        for (int i = 0; i < 5; i++) {
            byte[] q = Due.packet(17, 9, 0, 0, A1, Due.a(20, 0, 0, i), new byte[8]);
            Due.inject(x, 0, Due.packet(1, 9, 0, 0, A2, A1, Due.control(3, 4, i == 2 ? 10 : 100 + i, 0, q)));
        }
        Due.is("4 PATHS, the first went", Due.a(20, 0, 0, 1), () -> x.look(0, 14, 0, 0));
        Due.is("60 at least", 60, () -> x.look(0, 14, 1, 1));
        Due.is("SIZE", 104, () -> x.look(0, 14, 3, 1));
        Due.is("till when", 106, () -> x.look(0, 14, 3, 2));
        byte[] other = Due.packet(17, 9, 0, 0, A2, Due.a(20, 0, 0, 9), new byte[8]);
        Due.inject(x, 0, Due.packet(1, 9, 0, 0, A2, A1, Due.control(3, 4, 100, 0, other)));
        Due.is("quoted FROM is another", Due.a(20, 0, 0, 1), () -> x.look(0, 14, 0, 0));
        Due.feed(x, "pass");
        x.load(0, 0);
        for (int i = 0; i < 13; i++) {
            Due.inject(x, 0, Due.packet(17, 9, 0, 0, A2, A1, Due.datagram(1000 + i, 5, new byte[0])));
        }
        Due.is("12 FLOWS, the first went", 1001, () -> x.look(0, 10, 0, 2));
        Due.missing("12 FLOWS", () -> x.look(0, 10, 12, 0));
        Due.inject(x, 0, Due.packet(17, 9, 0, 1, A2, A1, new byte[9]));
        Due.is("a piece of PLACE 1 is of no FLOW", 1001, () -> x.look(0, 10, 0, 2));
        for (int i = 0; i < 5; i++) {
            Due.inject(x, 1 - 1, Due.packet(99, 9, 50 + i, 128, A2, A1, new byte[8]));
        }
        Due.inject(x, 0, Due.packet(99, 9, 50, 1, A2, A1, new byte[8]));
        int taken = x.count(0, 9);
        Due.inject(x, 0, Due.packet(99, 9, 53, 1, A2, A1, new byte[8]));
        Due.is("one of the latest 4 JOININGS", taken + 1, () -> x.count(0, 9));
        x.address(0, 0, 0);
        byte[] ask = Due.join(Due.bytes(1, 9), Due.word(A2), Due.word(A1));
        Due.feed(x, Due.frame(255, 9, 2, ask));
        x.inject(0);
        Due.missing("FIND at a PORT without ADDRESS", () -> x.look(0, 0, 0, 0));
    }

    private static byte[] segment(int number, int ack, int flags, int window, int bytes) {
        byte[] h = Due.join(Due.bytes(0, 7, 0, 80), Due.word(number), Due.word(ack), Due.bytes(flags, 0, window >> 8, window, 0, 0));
        return Due.packet(6, 9, 0, 64, A1, A2, Due.summed(Due.join(h, new byte[bytes]), 16));
    }

    private static void doubledAcks() {
        InternetHouse x = pair(0);
        x.socket(1, 2, 80);
        Due.inject(x, 4, segment(100, 0, 2, 400, 0));
        int first = 1013904223 >>> 16 << 16 | (1664525 * 1013904223 + 1013904223) >>> 16;
        int una = first + 1;
        Due.inject(x, 4, segment(101, una, 16, 400, 0));
        Due.is("OPEN", 4, () -> x.state(1, 0));
        Due.feed(x, new byte[300]);
        Due.is("written", 300, () -> x.write(1));
        Due.is("CARE lets 96 go", 96, () -> x.state(1, 9));
        Due.inject(x, 4, segment(101, una + 48, 16, 400, 0));
        Due.is("CARE", 144, () -> x.state(1, 4));
        Due.is("FLIGHT", 144, () -> x.state(1, 9));
        Due.inject(x, 4, segment(101, una + 48, 16, 399, 0));
        Due.is("another WINDOW: no DUP", 0, () -> x.state(1, 16));
        for (int i = 0; i < 3; i++) {
            Due.inject(x, 4, segment(101, una + 48, 16, 399, 0));
        }
        Due.is("DUPS", 3, () -> x.state(1, 16));
        Due.is("EDGE", 96, () -> x.state(1, 5));
        Due.is("CARE", 240, () -> x.state(1, 4));
        Due.is("FLIGHT", 240, () -> x.state(1, 9));
        Due.inject(x, 4, segment(101, una + 48, 16, 399, 0));
        Due.is("CARE", 288, () -> x.state(1, 4));
        Due.inject(x, 4, segment(101, una + 144, 16, 399, 0));
        Due.is("RECOVER is BEHIND it: CARE", 240, () -> x.state(1, 4));
        Due.is("DUPS stay", 4, () -> x.state(1, 16));
        Due.is("FLIGHT", 144, () -> x.state(1, 9));
        Due.inject(x, 4, segment(101, una + 288, 16, 399, 0));
        Due.is("all thanked for: CARE is EDGE", 96, () -> x.state(1, 4));
        Due.is("DUPS", 0, () -> x.state(1, 16));
        Due.is("the rest went", 12, () -> x.state(1, 9));
        Due.inject(x, 4, segment(101, una + 300, 16, 399, 0));
        Due.is("CARE, not below EDGE: 2304 / 96 more", 120, () -> x.state(1, 4));
        Due.inject(x, 4, segment(101, una + 301, 16, 399, 0));
        Due.is("ACK of what was never sent changes nothing", 0, () -> x.state(1, 9));
        Due.inject(x, 4, segment(101, una + 300, 0, 399, 5));
        Due.is("without ACK: nothing", 0, () -> x.state(1, 2));
        Due.inject(x, 4, segment(101, una + 300, 18, 399, 5));
        Due.is("SYN: nothing", 0, () -> x.state(1, 2));
        Due.inject(x, 4, segment(102, una, 4, 399, 0));
        Due.is("RST that is not the next", 4, () -> x.state(1, 0));
        Due.inject(x, 4, segment(101, una + 300, 17, 399, 5));
        Due.is("CLOSE WAIT", 7, () -> x.state(1, 0));
        Due.is("closed by RST", 0, () -> x.close(1, 1));
    }

    private static void bothAtOnce() {
        InternetHouse x = pair(0);
        int a = x.socket(0, 1, 1000);
        int b = x.socket(1, 1, 2000);
        x.connect(a, A2, 2000);
        x.connect(b, A1, 1000);
        x.run(8);
        Due.is("SYN CAME or OPEN", 1, () -> x.state(a, 0) >= 3 ? 1 : 0);
        x.run(10);
        Due.is("OPEN", 4, () -> x.state(a, 0));
        Due.is("OPEN", 4, () -> x.state(b, 0));
        x.close(a, 0);
        x.close(b, 0);
        x.run(3);
        Due.is("CLOSING", 8, () -> x.state(a, 0));
        x.run(2);
        Due.is("TIME WAIT", 10, () -> x.state(a, 0));
        Due.is("TIME WAIT", 10, () -> x.state(b, 0));
        x.run(20);
        Due.is("CLOSED", 0, () -> x.state(a, 0));
        int c = x.socket(0, 1, 3000);
        x.connect(c, A1, 3000);
        x.run(10);
        Due.is("with itself", 4, () -> x.state(c, 0));
    }

    private static byte[] outer(int from, byte[] data) {
        return Due.packet(79, 9, 0, 0, from, A1, data);
    }

    private static byte[] tell(int number, int net, int next, int origin, int med, int degree, int... systems) {
        byte[] d = Due.join(Due.bytes(3, number >> 8, number), Due.word(net), Due.bytes(8), Due.word(next),
            Due.bytes(origin, med >> 8, med, degree >> 8, degree, 0, 0, systems.length));
        for (int s : systems) {
            d = Due.join(d, Due.bytes(s >> 8, s));
        }
        return d;
    }

    private static void choosing() {
        InternetHouse x = pair(2);
        int[] peer = {Due.a(10, 0, 0, 11), Due.a(10, 0, 0, 12), Due.a(10, 0, 0, 13), Due.a(10, 0, 0, 14)};
        int[] system = {5, 6, 7, 1};
        x.set(0, 8, 1, 0, 0);
        for (int i = 0; i < 4; i++) {
            x.set(0, 9, peer[i], system[i], 0);
            Due.inject(x, 0, outer(peer[i], Due.bytes(1, 2, 0, system[i], 9 - i)));
        }
        Due.is("OPEN 2 is nothing", 0, () -> x.look(0, 6, 0, 2));
        for (int i = 0; i < 4; i++) {
            Due.inject(x, 0, outer(peer[i], Due.bytes(1, 0, 0, system[i], 9 - i)));
        }
        Due.is("UP", 2, () -> x.look(0, 6, 3, 2));
        int n = Due.a(50, 0, 0, 0);
        Due.inject(x, 0, outer(peer[0], tell(1, n, peer[0], 0, 0, 100, 5, 9)));
        Due.inject(x, 0, outer(peer[1], tell(1, n, peer[1], 0, 0, 100, 6)));
        Due.is("fewest SYSTEMS", peer[1], () -> x.look(0, 7, 0, 2));
        Due.inject(x, 0, outer(peer[0], tell(2, n, peer[0], 0, 0, 101, 5, 9)));
        Due.is("greatest DEGREE", peer[0], () -> x.look(0, 7, 0, 2));
        Due.inject(x, 0, outer(peer[0], tell(3, n, peer[0], 1, 0, 100, 5)));
        Due.is("least ORIGIN", peer[1], () -> x.look(0, 7, 0, 2));
        Due.inject(x, 0, outer(peer[0], tell(4, n, peer[0], 0, 0, 100, 5)));
        Due.is("least NODE number", peer[1], () -> x.look(0, 7, 0, 2));
        Due.inject(x, 0, outer(peer[2], tell(1, n, peer[2], 0, 9, 100, 6)));
        Due.is("more MED of the same first SYSTEM", peer[1], () -> x.look(0, 7, 0, 2));
        Due.inject(x, 0, outer(peer[1], tell(2, n, peer[1], 0, 10, 100, 6)));
        Due.is("less MED", peer[2], () -> x.look(0, 7, 0, 2));
        Due.inject(x, 0, outer(peer[3], tell(1, n, peer[3], 0, 0, 100, 8)));
        Due.is("outer ones first", peer[2], () -> x.look(0, 7, 0, 2));
        Due.inject(x, 0, outer(peer[2], tell(2, n, Due.a(99, 0, 0, 1), 0, 9, 100, 6)));
        Due.is("NEXT without a WAY", peer[1], () -> x.look(0, 7, 0, 2));
        x.route(0, Due.a(99, 0, 0, 0), 8, A2, 3);
        Due.is("COST of THE WAY to NEXT", peer[0], () -> x.look(0, 7, 0, 2));
        Due.inject(x, 0, outer(peer[0], Due.join(Due.bytes(4, 0, 5), Due.word(n), Due.bytes(8))));
        Due.is("TAKEN BACK", 3 - 2, () -> x.look(0, 6, 2, 3));
        Due.is("HEARD", 0, () -> x.look(0, 6, 0, 3));
        Due.is("by the FIXED row", 256L * A2, () -> x.way(0, 0, Due.a(50, 1, 1, 1)));
        Due.inject(x, 0, outer(peer[0], tell(5, n, peer[0], 0, 0, 100, 5)));
        Due.is("the same NUMBER: nothing more", 0, () -> x.look(0, 6, 0, 3));
        Due.inject(x, 0, outer(peer[0], tell(6, n, peer[0], 0, 0, 100, 5, 1, 3)));
        Due.is("the own SYSTEM among them", 0, () -> x.look(0, 6, 0, 3));
        Due.inject(x, 0, outer(peer[0], tell(7, n, peer[0], 3, 0, 100, 5)));
        Due.is("ORIGIN 3", 0, () -> x.look(0, 6, 0, 3));
        for (int i = 0; i < 13; i++) {
            Due.inject(x, 0, outer(peer[0], tell(20 + i, Due.a(60 + i, 0, 0, 0), peer[0], 0, 0, 100, 5)));
        }
        Due.is("12 at most", 12, () -> x.look(0, 6, 0, 3));
        Due.inject(x, 0, outer(peer[0], Due.bytes(6)));
        Due.is("END: IDLE", 0, () -> x.look(0, 6, 0, 2));
        Due.is("gone", 0, () -> x.look(0, 6, 0, 3));
        Due.inject(x, 0, outer(peer[0], Due.bytes(1, 1, 0, 5, 3)));
        Due.is("OPEN 1 in IDLE is nothing", 0, () -> x.look(0, 6, 0, 2));
        Due.inject(x, 0, outer(peer[1], Due.bytes(1, 0, 0, 7, 3)));
        Due.is("another SYSTEM: IDLE", 0, () -> x.look(0, 6, 1, 2));
    }

    private static byte[] linked(byte[] data) {
        return Due.packet(89, 1, 0, 0, A2, -1, data);
    }

    private static byte[] ownRow(int id, int number, int nets, byte[] rest) {
        return Due.join(Due.bytes(2, 0, 5, id), Due.word(number), Due.bytes(1, 0, 7, nets), rest);
    }

    private static void linkRows() {
        InternetHouse x = pair(2);
        x.set(0, 6, 1, 0, 0);
        x.run(1);
        Due.is("own ROW", 1, () -> x.look(0, 3, 0, 2));
        Due.inject(x, 0, linked(Due.bytes(1, 1, 5, 0)));
        Due.inject(x, 0, linked(Due.bytes(1, 0, 12, 0)));
        Due.inject(x, 0, linked(Due.bytes(1, 0, 0, 0)));
        Due.missing("another AREA, IDs that can't be", () -> x.look(0, 4, 0, 0));
        Due.inject(x, 0, linked(Due.bytes(1, 0, 5)));
        Due.is("heard", 5, () -> x.look(0, 4, 0, 1));
        Due.is("does not HEAR", 0, () -> x.look(0, 4, 0, 3));
        byte[] one = Due.join(Due.word(Due.a(40, 0, 0, 0)), Due.bytes(8, 0, 3, 0));
        Due.inject(x, 0, linked(ownRow(5, 9, 1, one)));
        Due.missing("from one that does not HEAR", () -> x.look(0, 3, 1, 0));
        Due.inject(x, 0, linked(Due.bytes(1, 0, 5, 3, 0)));
        Due.is("HEARS", 1, () -> x.look(0, 4, 0, 3));
        Due.inject(x, 0, linked(ownRow(5, 0, 1, one)));
        Due.inject(x, 0, linked(ownRow(12, 9, 1, one)));
        Due.inject(x, 0, linked(ownRow(5, 9, 2, one)));
        Due.inject(x, 0, linked(ownRow(5, 9, 1, Due.join(one, Due.bytes(1)))));
        Due.inject(x, 0, linked(ownRow(5, 9, 1, Due.join(Due.word(Due.a(40, 0, 0, 1)), Due.bytes(8, 0, 3, 0)))));
        Due.missing("none of these is right", () -> x.look(0, 3, 1, 0));
        Due.inject(x, 0, linked(ownRow(5, 9, 1, one)));
        Due.is("put there", 9, () -> x.look(0, 3, 1, 2));
        Due.missing("its LINK is none yet: this ID does not name it", () -> x.look(0, 5, 0, 0));
        x.run(1);
        Due.is("own ROW names it now", 2, () -> x.look(0, 3, 0, 2));
        Due.is("FOUND", 13, () -> x.look(0, 5, 0, 2));
        Due.inject(x, 0, linked(ownRow(5, 8, 0, new byte[0])));
        Due.is("a lesser NUMBER", 9, () -> x.look(0, 3, 1, 2));
        Due.inject(x, 0, linked(ownRow(0, 50, 0, new byte[0])));
        Due.is("own ROW anew, 1 more", 51, () -> x.look(0, 3, 0, 2));
        Due.is("own content", 1, () -> x.look(0, 3, 0, 3));
        for (int i = 0; i < 4; i++) {
            Due.inject(x, 0, linked(Due.bytes(1, 0, 6 + i)));
        }
        Due.is("4 NEIGHBOURS", 8, () -> x.look(0, 4, 3, 1));
        Due.missing("4 NEIGHBOURS", () -> x.look(0, 4, 4, 1));
        x.run(10);
        Due.is("there still", 5, () -> x.look(0, 4, 0, 1));
        x.run(1);
        Due.is("12 UNITS", 6, () -> x.look(0, 4, 0, 1));
        x.run(1);
        Due.missing("12 UNITS", () -> x.look(0, 4, 0, 1));
        Due.is("own ROW without LINKS", 0, () -> x.look(0, 3, 0, 3));
    }

    private static byte[] lease(int type, int client, int id, int what, int bits, int life, int server, int gate) {
        return Due.packet(67, 1, 0, 0, A2, -1, Due.join(Due.bytes(type, client, id >> 8, id), Due.word(what),
            Due.bytes(bits, life >> 8, life), Due.word(server), Due.word(gate)));
    }

    private static void leases() {
        InternetHouse x = pair(0);
        x.set(0, 13, 0, Due.a(10, 0, 0, 50), 2100);
        Due.inject(x, 0, lease(1, 7, 1, 0, 0, 0, 0, 0));
        x.run(1);
        Due.is("OFFER TO the LINK ADDRESS", 8, () -> x.seen(0, 0, 0));
        Due.is("OFFER", 2, () -> x.seen(0, 0, 21));
        Due.is("ADDRESS", 50, () -> x.seen(0, 0, 28));
        Due.inject(x, 0, lease(1, 8, 2, 0, 0, 0, 0, 0));
        x.run(1);
        Due.is("not the one OFFERED to another", 51, () -> x.seen(0, 0, 28));
        Due.inject(x, 0, lease(1, 9, 2, 0, 0, 0, 0, 0));
        x.run(1);
        Due.is("nothing without one", 2, () -> x.count(0, 0));
        Due.inject(x, 0, lease(3, 7, 1, Due.a(10, 0, 0, 50), 0, 0, A2, 0));
        Due.inject(x, 0, lease(1, 9, 3, 0, 0, 0, 0, 0));
        x.run(1);
        Due.is("TAKE for another SERVER: free", 50, () -> x.seen(0, 0, 28));
        Due.inject(x, 0, lease(3, 8, 2, Due.a(10, 0, 0, 51), 0, 0, A1, 0));
        x.run(1);
        Due.is("GIVEN", 4, () -> x.seen(0, 0, 21));
        Due.is("TO all", 255, () -> x.seen(0, 0, 0));
        Due.is("has it", 8, () -> x.look(0, 8, 0, 2));
        Due.inject(x, 0, lease(3, 7, 2, Due.a(10, 0, 0, 51), 0, 0, A1, 0));
        x.run(1);
        Due.is("NO", 5, () -> x.seen(0, 0, 21));
        Due.inject(x, 0, lease(3, 8, 2, Due.a(10, 0, 0, 52), 0, 0, A1, 0));
        x.run(1);
        Due.is("NO", 5, () -> x.seen(0, 0, 21));
        Due.inject(x, 0, lease(3, 8, 2, Due.a(10, 0, 0, 50), 0, 0, A1, 0));
        x.run(1);
        Due.is("another one: the former is free", Due.a(10, 0, 0, 50), () -> x.look(0, 8, 0, 1));
        Due.missing("one each", () -> x.look(0, 8, 1, 1));
        InternetHouse y = pair(0);
        y.set(1, 14, 1, 1, 0);
        y.node(0);
        y.line(5, 8, 1, 255, 148);
        y.run(1);
        Due.is("WANT", 1, () -> y.seen(5, 0, 21));
        int id = y.seen(5, 0, 23) * 256 + y.seen(5, 0, 24);
        Due.is("NUMBER is a DRAW", 1013904223 >>> 16, () -> id);
        Due.is("FROM 0", 0, () -> y.seen(5, 0, 13));
        Due.inject(y, 5, lease(4, 5, id, A2 + 5, 24, 20, A2, A2));
        Due.inject(y, 5, lease(2, 5, id + 1, A2 + 5, 24, 20, A2, A2));
        Due.inject(y, 5, lease(2, 4, id, A2 + 5, 24, 20, A2, A2));
        Due.inject(y, 5, lease(2, 5, id, A2 + 5, 24, 20, A2, A2));
        y.run(1);
        Due.is("TAKE", 3, () -> y.seen(5, 0, 21));
        Due.is("once", 2, () -> y.count(1, 0));
        Due.inject(y, 5, lease(4, 5, id, A2, 24, 20, A2, A2));
        Due.missing("ADDRESS of another PORT: nothing", () -> y.look(1, 1, 1, 1));
        Due.inject(y, 5, lease(4, 5, id, A2 + 256, 32, 20, A2, A2));
        Due.missing("BITS: nothing", () -> y.look(1, 1, 1, 1));
        Due.inject(y, 5, lease(4, 5, id, A2 + 256, 24, 20, A2, A2 + 257));
        Due.is("HAS", A2 + 256, () -> y.look(1, 1, 1, 1));
        Due.is("GATE", 256L * (A2 + 257) + 5, () -> y.way(1, 0, 77));
        Due.inject(y, 5, lease(5, 5, id, A2 + 256, 0, 0, A2, 0));
        Due.missing("NO: gone", () -> y.look(1, 1, 1, 1));
        Due.is("no WAY", -1, () -> y.way(1, 0, 77));
    }

    private static byte[] name(String s) {
        return Due.join(Due.bytes(s.length()), s.getBytes());
    }

    private static void answers() {
        InternetHouse x = pair(0);
        x.set(0, 15, A2, 0, 0);
        Due.feed(x, "a.b.c");
        x.ask(0, 1);
        int id = 1013904223 >>> 16;
        byte[] head = Due.bytes(1, id >> 8, id);
        byte[] row = Due.join(Due.bytes(1, 0, 50), name("a.b.c"), Due.bytes(9, 8, 7, 6));
        Due.inject(x, 0, Due.packet(53, 9, 0, 0, A2 + 1, A1, Due.join(head, Due.bytes(0, 1), row)));
        Due.inject(x, 0, Due.packet(53, 9, 0, 0, A2, A1, Due.join(head, Due.bytes(5, 1), row)));
        Due.inject(x, 0, Due.packet(53, 9, 0, 0, A2, A1, Due.join(head, Due.bytes(0, 2), row)));
        Due.inject(x, 0, Due.packet(53, 9, 0, 0, A2, A1, Due.join(Due.bytes(1, 0, 0, 0, 1), row)));
        Due.inject(x, 0, Due.packet(53, 9, 0, 0, A2, A1, Due.join(head, Due.bytes(0, 1), Due.bytes(7, 0, 5), name("a"), name("b"))));
        Due.is("none of these is right", -1, () -> x.answer(0, 0, 0));
        Due.missing("none of these is right", () -> x.look(0, 9, 0, 0));
        Due.inject(x, 0, Due.packet(53, 9, 0, 0, A2, A1, Due.join(head, Due.bytes(0, 1), row, Due.bytes(1, 2))));
        Due.is("what is behind the ROWS is not looked at", 0, () -> x.answer(0, 0, 0));
        Due.outIs("VALUE", x, "\t\b\7\6");
        Due.feed(x, "z.b.c");
        x.ask(0, 1);
        int c2 = 1664525 * 1013904223 + 1013904223;
        int id2 = c2 >>> 16;
        byte[] head2 = Due.bytes(1, id2 >> 8, id2);
        byte[] ns = Due.join(Due.bytes(2, 0, 50), name("q.b.c"), name("n"));
        Due.inject(x, 0, Due.packet(53, 9, 0, 0, A2, A1, Due.join(head2, Due.bytes(3, 1), ns)));
        Due.is("3 without a SERVER above it: FAILED", 3, () -> x.answer(0, 0, 0));
        Due.is("but its ROW is kept", 2, () -> x.look(0, 9, 1, 0));
        Due.feed(x, "z.b.c");
        x.ask(0, 1);
        int c3 = 1664525 * c2 + 1013904223;
        byte[] head3 = Due.bytes(1, c3 >>> 24, c3 >>> 16);
        byte[] glue = Due.join(Due.bytes(2, 0, 50), name("b.c"), name("n"), Due.bytes(1, 0, 50), name("n"), Due.word(A2 + 7));
        Due.inject(x, 0, Due.packet(53, 9, 0, 0, A2, A1, Due.join(head3, Due.bytes(3, 2), glue)));
        Due.is("asked further", -1, () -> x.answer(0, 0, 0));
        int c4 = 1664525 * c3 + 1013904223;
        byte[] head4 = Due.bytes(1, c4 >>> 24, c4 >>> 16);
        byte[] no = Due.join(Due.bytes(0, 0, 9), name("b.c"), Due.bytes(0), Due.bytes(1, 0, 9), name("x.org"), Due.word(5));
        Due.inject(x, 0, Due.packet(53, 9, 0, 0, A2 + 7, A1, Due.join(head4, Due.bytes(2, 2), no)));
        Due.is("no such KIND", 2, () -> x.answer(0, 0, 0));
        Due.is("kept: KIND 11", 11, () -> x.look(0, 9, 4, 0));
        Due.is("for 9 UNITS", 9, () -> x.look(0, 9, 4, 2));
        Due.missing("what is not in the ZONE asked is not kept", () -> x.look(0, 9, 5, 0));
    }

    public static void main(String[] args) {
        equalWays();
        overBridges();
        manyThings();
        doubledAcks();
        bothAtOnce();
        choosing();
        linkRows();
        leases();
        answers();
        Due.end("EdgesTest");
    }
}
