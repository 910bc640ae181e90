/** Boundary cases that need a house of their own: what goes when a NODE goes down, the order of what is thrown, and more of WAYS and STREAMS. */
public final class BoundsRestTest {
    private static final int A1 = Wire.A1;
    private static final int A2 = Wire.A2;
    private static final int A9 = Due.a(10, 0, 0, 9);

    private static int net(int i) {
        return Due.a(20, i, 0, 0);
    }

    private static void bridges() {
        Due.sentence("ROOT (2 bytes), COST (2), NAME (2), PORT (its number modulo 4), AGE.");
        InternetHouse x = new InternetHouse();
        x.node(0);
        x.node(0);
        x.node(1);
        x.line(11, 0, 1, 255, 148);
        x.run(2);
        byte[] want = Wire.notice(128 * 256 + 2, 0, 128 * 256 + 2, 3, 0);
        want[1] = 12;
        Due.is("PORT 11", 1, () -> java.util.Arrays.equals(Wire.cut(want, 11), Wire.cut(Wire.sent(x, 11, 0), 11)) ? 1 : 0);
        Due.sentence("the ROOT PORT is that PORT, none for its own.");
        Wire.frame(x, 11, Wire.notice(128 * 256 + 2, 0, 5, 0, 6));
        x.run(2);
        Due.is("none for its own", 3, () -> x.bridge(11, 0));
        Due.is("nothing is sent", 2, () -> x.seen(11, 0, -2));
        Wire.frame(x, 11, Wire.notice(128 * 256 + 1, 0, 5, 0, 6));
        Due.is("that PORT", 1, () -> x.bridge(11, 0));
    }

    private static void ways() {
        Due.sentence("8, 9: SUM; 10 to 13: FROM; 14 to 17: TO; then DATA.");
        InternetHouse x = Wire.pair(2);
        Wire.known(x, 0, A1, A2, 5);
        x.echo(0, A2, 1, 77);
        x.run(2);
        byte[] p = Due.packet(1, 77, 0, 0, A1, A2, Due.control(8, 0, 0, 1, new byte[1]));
        Due.is("all of it", 1, () -> java.util.Arrays.equals(Due.frame(5, 1, 3, p), Wire.sent(x, 0, 0)) ? 1 : 0);
        Due.sentence("(None without any.)");
        InternetHouse none = new InternetHouse();
        none.node(2);
        none.set(0, 5, 1, 0, 0);
        none.run(10);
        Due.is("no PORT with an ADDRESS", 0, () -> none.count(0, 0));
        Due.is("no NAME", 0, () -> none.look(0, 15, 0, 6));
        Due.sentence("WAYS of KIND 3: all with COST below 16 whose PORT has an ADDRESS and a whole LINE.");
        InternetHouse y = Wire.pair(2);
        y.set(0, 5, 1, 0, 0);
        Due.inject(y, 0, Wire.distance(A2, net(1), 16, 14, net(2), 16, 1));
        Due.inject(y, 0, Wire.distance(A2, net(2), 16, 15));
        Due.is("COST 15", 256L * A2, () -> y.way(0, 0, net(1)));
        Due.is("COST 16", -1, () -> y.way(0, 0, net(2)));
        y.quality(0, 6, 1);
        Due.is("CUT", -1, () -> y.way(0, 0, net(1)));
        y.quality(0, 6, 0);
        Due.is("whole", 256L * A2, () -> y.way(0, 0, net(1)));
        y.address(0, 0, 0);
        Due.is("no ADDRESS", -1, () -> y.way(0, 0, net(1)));
        Due.sentence("TYPE 1 HELLO, behind it the IDS of who was heard there (by rising IDS)");
        InternetHouse z = Wire.pair(2);
        z.set(0, 6, 1, 0, 0);
        for (int id : new int[] {9, 3, 11, 7}) {
            Due.inject(z, 0, Wire.hello(0, id));
        }
        z.run(4);
        Due.said("rising", java.util.Arrays.toString(Wire.data(z, 0, 0)), "[1, 0, 0, 3, 7, 9, 11]");
        Due.sentence("BOOK of each AREA: of each ID at most one ROW: a NUMBER (4 bytes, from 1)");
        Due.is("from 1", 1, () -> z.look(0, 3, 0, 2));
        Due.inject(z, 0, Wire.hello(0, 9, 0));
        for (int i = 1; i < 4; i++) {
            Due.inject(z, 0, Wire.linked(Due.join(Due.bytes(2, 0, 9, 9), Due.word(i), Due.bytes(0, 0))));
            Due.is("one of its own, one of 9", 2, () -> Wire.rows(z, 0, 3));
        }
        z.run(1);
        Due.is("1 more: it HEARS", 2, () -> z.look(0, 3, 0, 2));
        z.run(3);
        Due.is("stays", 2, () -> z.look(0, 3, 0, 2));
        Due.sentence("The least for a NET and AREA: WAYS of KIND 2, with each NEXT and PORT that gives it, once. (Of several AREAS: as rows of their own.)");
        for (int more = 0; more < 2; more++) {
            InternetHouse u = Wire.pair(2);
            u.set(0, 6, 1, 0, 0);
            for (int id = 5; id < 7; id++) {
                Due.inject(u, 0, Due.packet(89, 1, 0, 0, Due.a(10, 0, 0, id), -1, Due.bytes(1, 0, id, 0)));
            }
            u.run(1);
            for (int id = 5; id < 7; id++) {
                byte[] d = Due.join(Due.bytes(2, 0, id, id), Due.word(1), Due.bytes(1, 0, 1, 1), Wire.net(net(1), 16, 7 + (id - 5) * more, 0));
                Due.inject(u, 0, Due.packet(89, 1, 0, 0, Due.a(10, 0, 0, id), -1, d));
            }
            Due.is(more == 0 ? "both give it" : "one gives it for less", 2 - more, () -> Wire.rows(u, 0, 5));
            Due.is("COST", 17, () -> u.look(0, 5, 0, 2));
            Due.is("NEXT", Due.a(10, 0, 0, 5), () -> u.look(0, 5, 0, 3));
        }
        Due.sentence("5 WAYS of KIND 2 (NET without a sign, BITS, COST, NEXT, PORT): NET, BITS, COST, NEXT, PORT;");
        InternetHouse v = Wire.pair(2);
        v.set(0, 6, 1, 0, 0);
        Due.inject(v, 0, Wire.hello(0, 5, 0));
        v.run(1);
        Due.inject(v, 0, Wire.linkRow(5, 1, new int[] {0, 1}, Wire.net(1 << 31, 2, 1, 0), Wire.net(net(1), 17, 1, 0), Wire.net(1 << 31, 1, 9, 0),
            Wire.net(net(1), 16, 5, 0), Wire.net(Due.a(127, 0, 0, 0), 8, 1, 0)));
        int[] nets = {net(1), net(1), Due.a(127, 0, 0, 0), 1 << 31, 1 << 31};
        int[] bits = {16, 17, 8, 1, 2};
        for (int i = 0; i < 5; i++) {
            int k = i;
            Due.is("NET " + k, nets[k], () -> v.look(0, 5, k, 0));
            Due.is("BITS " + k, bits[k], () -> v.look(0, 5, k, 1));
        }
        Due.sentence("FOUND (PORT 0 to 3, then as made): PORT, ADDRESS, LINK ADDRESS, time;");
        InternetHouse w = new InternetHouse();
        w.node(0);
        for (int port = 3; port >= 0; port--) {
            w.address(port, Due.a(10, 0, port, 1), 24);
            Wire.known(w, port, Due.a(10, 0, port, 1), Due.a(10, 0, port, 9), 20 + port);
            Wire.known(w, port, Due.a(10, 0, port, 1), Due.a(10, 0, port, 3), 30 + port);
        }
        Due.is("8 ROWS", 8, () -> Wire.rows(w, 0, 0));
        for (int i = 0; i < 8; i++) {
            int k = i;
            Due.is("PORT", k / 2, () -> w.look(0, 0, k, 0));
            Due.is("as made", Due.a(10, 0, k / 2, k % 2 == 0 ? 9 : 3), () -> w.look(0, 0, k, 1));
        }
        Due.sentence("PORTS as 0 to 3, flags 1 or 0.");
        Due.is("of NODE 0", 3, () -> w.look(0, 1, 3, 0));
        w.node(0);
        w.address(7, A1, 24);
        Due.is("of NODE 1, PORT 7", 3, () -> w.look(1, 1, 0, 0));
        Due.is("UP", 1, () -> w.look(1, 15, 0, 0));
        Due.is("DISTANCE", 0, () -> w.look(1, 15, 0, 1));
        Due.sentence("2: COST b of its PORT a (0 to 3; so below).");
        for (int n = 0; n < 2; n++) {
            int node = n;
            Due.argument("PORT -1", () -> w.set(node, 2, -1, 5, 0));
            Due.argument("PORT 4", () -> w.set(node, 2, 4, 5, 0));
            Due.is("PORT 3", 1, () -> w.set(node, 2, 3, 5, 0));
        }
    }

    private static void outer() {
        Due.sentence("else of all HEARD whose NEXT has a WAY of KIND 0 to 3: those with the greatest DEGREE;");
        InternetHouse x = Wire.pair(2);
        x.set(0, 8, 1, 0, 0);
        x.set(0, 9, A2, 5, 0);
        Due.inject(x, 0, Wire.outer(A2, Wire.open(0, 5, 7)));
        Due.inject(x, 0, Wire.outer(A2, Wire.tell(1, net(1), 16, A2, 0, 0, 100, 0, 5)));
        Due.inject(x, 0, Wire.outer(A2, Wire.tell(2, net(2), 16, net(1) + 1, 0, 0, 100, 0, 5)));
        Due.is("a WAY of KIND 4 to NEXT", 256L * A2, () -> x.way(0, 0, net(1) + 1));
        Due.is("is not meant", 1, () -> Wire.rows(x, 0, 7));
        Due.is("it is HEARD all the same", 2, () -> x.look(0, 6, 0, 3));
        Due.sentence("NEXT and PORT of THE WAY to its NEXT (that itself, if of KIND 0; none through TUNNELS).");
        x.set(0, 12, 1, A2, 0);
        x.route(0, Due.a(30, 0, 0, 0), 8, 1, 1);
        Due.inject(x, 0, Wire.outer(A2, Wire.tell(3, net(3), 16, Due.a(30, 0, 0, 1), 0, 0, 100, 0, 5)));
        Due.is("CHOSEN", 2, () -> Wire.rows(x, 0, 7));
        Due.is("no WAY through a TUNNEL", -1, () -> x.way(0, 0, net(3)));
        Due.inject(x, 0, Wire.outer(A2, Wire.tell(4, net(4), 16, A9, 0, 0, 100, 0, 5)));
        Due.is("NEXT itself", 256L * A9, () -> x.way(0, 0, net(4)));
        x.route(0, Due.a(31, 0, 0, 0), 8, A2, 1);
        Due.inject(x, 0, Wire.outer(A2, Wire.tell(5, net(5), 16, Due.a(31, 0, 0, 1), 0, 0, 100, 0, 5)));
        Due.is("NEXT of THE WAY", 256L * A2, () -> x.way(0, 0, net(5)));
        Due.sentence("WHAT A PEER IS TO BE TOLD: of each CHOSEN, by NET (without a sign), then BITS:");
        InternetHouse y = Wire.pair(2);
        y.set(0, 8, 1, 0, 0);
        y.set(0, 9, A2, 5, 0);
        Wire.known(y, 0, A1, A2, 5);
        y.set(0, 10, 1 << 31, 1, 1);
        y.set(0, 10, net(1), 17, 1);
        y.set(0, 10, net(1), 16, 1);
        Due.inject(y, 0, Wire.outer(A2, Wire.open(0, 5, 7)));
        int[] want = {net(1), net(1), 1 << 31};
        int[] bits = {16, 17, 1};
        int told = 0;
        for (int i = 0; i < 30 && told < 3; i++) {
            y.run(1);
            byte[] d = Wire.data(y, 0, 0);
            if (y.seen(0, 0, 4) == 79 && d.length > 7 && Wire.u16(d, 1) == told + 1) {
                int k = told;
                Due.is("NET", want[k], () -> Wire.u32(d, 3));
                Due.is("BITS", bits[k], () -> d[7]);
                told++;
                Due.inject(y, 0, Wire.outer(A2, Due.bytes(5, 0, told)));
            }
        }
        Due.is("all three", 3, () -> y.look(0, 6, 0, 4));
        Due.sentence("256 times NEXT (without a sign; KIND 0: TO), and the PORT (0 to 47; 200 + i: TUNNEL i); -1: none.");
        InternetHouse z = new InternetHouse();
        for (int i = 0; i < 12; i++) {
            z.node(0);
        }
        z.line(47, 0, 1, 255, 148);
        z.address(47, -3, 24);
        z.route(11, 0, 0, -2, 1);
        Due.is("NEXT -2, PORT 47", 256L * 0xFFFFFFFEL + 47, () -> z.way(11, 0, 1));
        Due.is("KIND 0: TO -1", 256L * 0xFFFFFFFFL + 47, () -> z.way(11, 0, -1));
        Due.is("none", -1, () -> z.way(10, 0, 1));
    }

    private static byte[] segment(int number, int ack, int flags, byte[] data) {
        return Wire.segment(number, ack, flags, 400, data);
    }

    private static InternetHouse open() {
        InternetHouse x = Wire.pair(0);
        x.set(0, 0, 0, 0, 0);
        Wire.known(x, 4, A2, A1, 1);
        x.socket(1, 2, 80);
        Due.inject(x, 4, segment(100, 0, 2, new byte[0]));
        Due.inject(x, 4, segment(101, UNA, 16, new byte[0]));
        x.run(3);
        return x;
    }

    private static final int UNA = (Wire.draw(0) >>> 16 << 16 | Wire.draw(Wire.draw(0)) >>> 16) + 1;

    private static void streams() {
        Due.sentence("(TO a GROUP: only if the NODE is in it.)");
        InternetHouse g = Wire.pair(0);
        g.socket(0, 0, 5);
        for (int in = 0; in < 2; in++) {
            g.set(0, 16, Wire.GROUP, in, 0);
            Due.inject(g, 0, Due.packet(17, 9, 0, 0, A2, Wire.GROUP, Due.datagram(9, 5, new byte[1])));
            int want = in;
            Due.is("in it: " + in, want, () -> g.state(0, 2));
        }
        Due.sentence("FIRST (two DRAWS, the first one above), UNA (the first NUMBER not thanked for), NEXT, MOST (the furthest NEXT);");
        for (int seed : new int[] {0, 5, -1, Integer.MIN_VALUE}) {
            InternetHouse x = Wire.pair(0, seed);
            x.socket(0, 1, 5);
            Wire.known(x, 0, A1, A2, 5);
            x.connect(0, A2, 80);
            x.run(2);
            int a = Wire.draw(seed);
            Due.is("FIRST", a >>> 16 << 16 | Wire.draw(a) >>> 16, () -> Wire.u32(Wire.data(x, 0, 0), 4));
        }
        Due.sentence("RCV (the NUMBER expected), at most 400 bytes that came and were not read.");
        InternetHouse full = open();
        for (int i = 0; i < 5; i++) {
            Due.inject(full, 4, segment(101 + 90 * i, UNA, 16, new byte[90]));
            int want = Math.min(400, 90 * (i + 1));
            Due.is("to read", want, () -> full.state(1, 2));
        }
        full.run(9);
        Due.is("THE WINDOW it offers", 0, () -> Wire.u16(Wire.data(full, 4, 0), 14));
        Due.is("the ACK", 501, () -> Wire.u32(Wire.data(full, 4, 0), 8));
        Due.sentence("The byte k of what is written has the NUMBER FIRST + 1 + k, the FIN that behind the last one.");
        InternetHouse x = open();
        Due.feed(x, "abcde");
        x.write(1);
        x.close(1, 0);
        x.run(2);
        Due.is("the first byte", UNA, () -> Wire.u32(Wire.data(x, 4, 1), 4));
        Due.is("its bytes", 'a', () -> Wire.data(x, 4, 1)[18]);
        Due.is("the FIN", UNA + 5, () -> Wire.u32(Wire.data(x, 4, 0), 4));
        InternetHouse fin = open();
        fin.close(1, 0);
        fin.run(1);
        Due.is("without bytes", UNA, () -> Wire.u32(Wire.data(fin, 4, 0), 4));
        Due.sentence("The TIMER, if it is off and FLIGHT is above 0 (or there are bytes, FLIGHT and FAR WINDOW are 0), is set: TIME + WAIT.");
        InternetHouse t = open();
        t.run(20);
        Due.is("nothing is under way", 0, () -> t.state(1, 15));
        Due.feed(t, "a");
        t.write(1);
        t.run(6);
        Due.feed(t, "b");
        t.write(1);
        t.run(5);
        Due.is("11 UNITS: what was written later does not change it", 0, () -> t.state(1, 15));
        t.run(1);
        Due.is("12 UNITS", 1, () -> t.state(1, 15));
        Due.sentence("the TIMER is off, or, if FLIGHT is above 0, set anew.");
        InternetHouse u = open();
        Due.feed(u, new byte[96]);
        u.write(1);
        u.run(10);
        Due.inject(u, 4, segment(101, UNA + 47, 16, new byte[0]));
        u.run(11);
        Due.is("set anew", 0, () -> u.state(1, 15));
        u.run(1);
        Due.is("12 UNITS later", 1, () -> u.state(1, 15));
        Due.sentence("UNA is ACK, NEXT too, if that was not BEHIND it;");
        Due.is("48 of 49 are under way", 48, () -> u.state(1, 9));
        Due.inject(u, 4, segment(101, UNA + 96, 16, new byte[0]));
        Due.is("NEXT was 95: it is 96", 97, () -> u.state(1, 14));
        Due.is("nothing is under way", 0, () -> u.state(1, 9));
        u.run(30);
        Due.is("the TIMER is off", 0, () -> u.state(1, 15));
        Due.sentence("ACK BEHIND UNA: what it thanks for leaves the ROW; a round trip is measured if its end is not BEHIND ACK:");
        InternetHouse v = open();
        Due.feed(v, new byte[96]);
        v.write(1);
        v.run(5);
        Due.inject(v, 4, segment(101, UNA, 16, new byte[1]));
        Due.is("UNA: nothing leaves the ROW", 96, () -> v.state(1, 3));
        Due.inject(v, 4, segment(102, UNA + 47, 16, new byte[0]));
        Due.is("47: 49 are left", 49, () -> v.state(1, 3));
        Due.is("its end is 48: BEHIND", 0, () -> v.state(1, 7));
        Due.inject(v, 4, segment(102, UNA + 48, 16, new byte[0]));
        Due.is("48: 8 times 5", 40, () -> v.state(1, 7));
        Due.inject(v, 4, segment(102, UNA + 96, 16, new byte[0]));
        Due.is("none is measured any more", 40, () -> v.state(1, 7));
        Due.sentence("whose far ADDRESS and port are its FROM and port (STATE 2 to 10); (of several the least); else for the last one with STATE 1; else for none:");
        InternetHouse w = open();
        w.close(0, 0);
        Due.is("not accepted: CLOSED", 0, () -> w.state(1, 0));
        InternetHouse s = open();
        s.accept(0);
        s.close(0, 0);
        s.socket(1, 1, 80);
        s.connect(2, A1, 7);
        Due.inject(s, 4, segment(101, UNA, 16, new byte[3]));
        Due.is("the least", 3, () -> s.state(1, 2));
        s.close(1, 1);
        Due.inject(s, 4, segment(500, UNA, 2, new byte[0]));
        Due.is("the other one when that is CLOSED", 3, () -> s.state(2, 0));
        InternetHouse far = open();
        int before = far.count(1, 0);
        Due.inject(far, 4, Due.packet(6, 9, 0, 64, A9, A2, Due.summed(Due.join(Wire.half(7), Wire.half(80), Due.word(101), Due.word(UNA),
            Due.bytes(16, 0), Wire.half(400), Wire.half(0), new byte[3]), 16)));
        Due.inject(far, 4, Wire.segment(8, 101, UNA, 16, 400, new byte[3]));
        Due.is("another FROM, another port: for the one that LISTENS", 0, () -> far.state(1, 2));
        far.run(2);
        Due.is("RST goes back for an ACK", before + 2, () -> far.count(1, 0));
    }

    private static void resolving() {
        Due.sentence("of the CACHE the ROWS of KIND 2 of the NAME or the lowest above it (not of \".\") with an ADDRESS in the CACHE: the first such ADDRESS (ROWS in the order in which they came); none: the ROOT: a QUESTION is SENT there, with a NUMBER (a DRAW).");
        byte[][] rows = {Wire.row(2, 400, ".", "n0"), Wire.row(1, 400, "n0", 100), Wire.row(2, 400, "c", "n1"), Wire.row(1, 400, "n1", 101),
            Wire.row(2, 400, "b.c", "n2"), Wire.row(2, 400, "b.c", "n3"), Wire.row(1, 400, "n3", 103), Wire.row(1, 400, "n3", 104),
            Wire.row(2, 400, "a.b.c", "n4")};
        String[] name = {"z", "c", "z.c", "b.c", "z.b.c", "a.b.c", "z.a.b.c"};
        int[] asked = {A2, 101, 101, 103, 103, 103, 103};
        for (int i = 0; i < name.length; i++) {
            InternetHouse x = Wire.pair(0);
            x.set(1, 0, 0, 0, 0);
            x.route(0, 0, 0, A2, 1);
            x.set(0, 15, A2, 0, 0);
            Wire.known(x, 0, A1, A2, 5);
            x.run(2);
            Due.feed(x, "q");
            x.ask(0, 1);
            Due.inject(x, 0, Wire.reply(A2, A1, Wire.draw(0) >>> 16, 0, java.util.Arrays.copyOfRange(rows, 0, 5)));
            Due.inject(x, 0, Wire.reply(A2, A1, Wire.draw(Wire.draw(0)) >>> 16, 1, java.util.Arrays.copyOfRange(rows, 5, 9)));
            Due.is("ROWS", 9, () -> Wire.rows(x, 0, 9));
            x.run(5);
            Due.feed(x, name[i]);
            x.ask(0, 4);
            x.run(1);
            int k = i;
            Due.is("for " + name[k], asked[k], () -> Wire.u32(Wire.sent(x, 0, 0), 3 + 14));
        }
    }

    private static void goesDown() {
        Due.sentence("when it goes down, what it has found, what is under way in it (FRAMES in ROWS, all but what was set, loaded, LENT or OFFERED, what was told of ECHOS, the counts, NAME and BUSY), an ADDRESS it BORROWS are gone, its SOCKETS FAIL 5 (also those that LISTEN; not such as are CLOSED; DATAGRAMS that were not read are gone), ROLES are 0, ERRORS 6, DEFICITS and TURN 0, TOKENS SIZE.");
        InternetHouse x = Wire.chain(148);
        int far = Due.a(99, 0, 0, 1);
        Wire.load(x, 1, 0, "drop proto 77\npass");
        Wire.load(x, 1, 1, "in go");
        Wire.load(x, 1, 2, "zone . 5");
        x.set(1, 5, 1, 0, 0);
        x.set(1, 6, 1, 0, 0);
        x.set(1, 8, 1, 0, 0);
        x.set(1, 9, A1, 5, 0);
        x.set(1, 10, net(9), 16, 1);
        x.set(1, 11, 1, 0, 0);
        x.set(1, 13, 0, Due.a(10, 0, 0, 50), 2400);
        x.set(1, 15, A1, 0, 0);
        x.set(1, 16, Wire.GROUP, 1, 0);
        x.route(1, Due.a(98, 0, 0, 0), 8, A1, 1);
        Wire.known(x, 4, A2, A1, 1);
        x.echo(1, A1, 0, 32);
        x.run(5);
        for (int i = 0; i < 3; i++) {
            x.echo(1, A2, 0, 32);
        }
        Due.inject(x, 4, Wire.distance(A1, net(1), 16, 3));
        Due.inject(x, 4, Due.packet(89, 1, 0, 0, A1, -1, Due.bytes(1, 0, 5, 1)));
        Due.inject(x, 4, Due.packet(79, 9, 0, 0, A1, A2, Wire.open(0, 5, 7)));
        Due.inject(x, 4, Due.packet(79, 9, 0, 0, A1, A2, Wire.tell(1, net(2), 16, A1, 0, 0, 100, 0, 5)));
        Due.inject(x, 4, Due.packet(17, 9, 0, 0, A1, Wire.B2, Due.datagram(9, 5, new byte[0])));
        Due.inject(x, 4, Due.packet(2, 1, 0, 0, A1, Wire.GROUP, Due.join(Due.bytes(1), Due.word(Wire.GROUP))));
        Due.inject(x, 4, Due.packet(1, 9, 0, 0, A1, A2, Due.control(3, 4, 100, 0, Due.packet(99, 9, 0, 0, A2, far, new byte[0]))));
        Due.inject(x, 4, Wire.lease(3, 9, 1, Due.a(10, 0, 0, 50), 0, 0, A2, 0));
        Due.inject(x, 4, Due.packet(99, 9, 3, 128, A1, A2, new byte[8]));
        Due.feed(x, "q");
        x.ask(1, 1);
        x.run(1);
        Due.inject(x, 4, Due.packet(99, 9, 0, 0, A1, far, new byte[8]));
        int[] gone = {0, 2, 3, 4, 5, 7, 9, 10, 11, 12, 14};
        int[] there = {0, 2, 3, 4, 7, 10, 11, 12, 14};
        for (int what : there) {
            Due.is("there is " + what, 1, () -> Wire.rows(x, 1, what) > 0 ? 1 : 0);
        }
        int[] counts = new int[10];
        for (int i = 0; i < 10; i++) {
            counts[i] = x.count(1, i);
        }
        long name = x.look(1, 15, 0, 6);
        int told = Wire.rows(x, 1, 13);
        int seen = x.seen(4, 0, -2);
        Due.is("down", 1, () -> x.set(1, 0, 0, 0, 0));
        for (int what : gone) {
            Due.is("gone: " + what, what == 7 ? 1 : 0, () -> what == 7 ? 1 : Wire.rows(x, 1, what));
        }
        Due.is("IDLE", 0, () -> x.look(1, 6, 0, 2));
        Due.is("HEARD", 0, () -> x.look(1, 6, 0, 3));
        Due.is("the QUESTION", -2, () -> x.answer(1, 0, 0));
        Due.is("ERRORS", 6, () -> x.look(1, 15, 0, 5));
        for (int i = 0; i < 10; i++) {
            int k = i;
            Due.is("count " + k, counts[k], () -> x.count(1, k));
        }
        Due.is("NAME", name, () -> x.look(1, 15, 0, 6));
        Due.is("what was told of ECHOS", told, () -> Wire.rows(x, 1, 13));
        Due.is("what was sent", seen, () -> x.seen(4, 0, -2));
        Due.is("ADDRESSES", 2, () -> Wire.rows(x, 1, 1));
        Due.is("PEERS", 1, () -> Wire.rows(x, 1, 6));
        Due.is("LENT", 1, () -> Wire.rows(x, 1, 8));
        Due.is("FIXED rows", 1, () -> x.route(1, 0, 0, 5, -1));
        int[] on = {0, 1, 1, 1, A1, 6, (int) name, 1};
        for (int k = 0; k < 8; k++) {
            int i = k;
            Due.is("ON " + k, on[i], () -> x.look(1, 15, 0, i));
        }
        Due.is("down once more", 1, () -> x.set(1, 0, 0, 0, 0));
        x.run(30);
        Due.is("nothing is sent", counts[0], () -> x.count(1, 0));
        x.set(1, 0, 1, 0, 0);
        Due.is("UP once more", 1, () -> x.set(1, 0, 1, 0, 0));
        x.run(2);
        Due.is("what waited INSIDE, the JOINING, the ROWS are gone: own ROWS, HELLO, NOTICES alone", told, () -> Wire.rows(x, 1, 13));
        Due.inject(x, 4, Due.packet(77, 9, 0, 0, A1, A2, new byte[0]));
        Due.is("its FILTER", counts[5] + 1, () -> x.count(1, 5));
        sockets();
        busyAndTokens();
    }

    private static void sockets() {
        InternetHouse x = Wire.pair(0);
        x.socket(0, 0, 5);
        x.socket(0, 1, 6);
        x.socket(0, 2, 7);
        x.socket(0, 1, 8);
        x.connect(3, A2, 9);
        x.socket(0, 0, 9);
        x.close(4, 0);
        x.socket(1, 0, 5);
        x.socket(1, 2, 9);
        Due.inject(x, 0, Due.packet(17, 9, 0, 0, A2, A1, Due.datagram(9, 5, new byte[1])));
        Due.is("a DATAGRAM", 1, () -> x.state(0, 2));
        x.set(0, 0, 0, 0, 0);
        int[] failure = {5, 0, 5, 5, 0, 0, 0};
        int[] state = {0, 0, 0, 0, 0, 4, 1};
        for (int s = 0; s < 7; s++) {
            int k = s;
            Due.is("FAILURE of " + k, failure[k], () -> x.state(k, 1));
            Due.is("STATE of " + k, state[k], () -> x.state(k, 0));
        }
        Due.is("DATAGRAMS that were not read", 0, () -> x.state(0, 2));
        Due.state("down", () -> x.connect(1, A2, 9));
        x.set(0, 0, 1, 0, 0);
        Due.is("one that was never connected", 1, () -> x.connect(1, A2, 9));
        InternetHouse b = Wire.pair(0);
        b.node(0);
        b.line(1, 8, 1, 255, 148);
        b.set(0, 14, 1, 1, 0);
        b.run(1);
        int id = Wire.u16(Wire.data(b, 1, 0), 2);
        Due.inject(b, 1, Wire.lease(2, 1, id, Due.a(10, 0, 7, 7), 24, 100, A2, 0));
        Due.inject(b, 1, Wire.lease(4, 1, id, Due.a(10, 0, 7, 7), 24, 100, A2, Due.a(10, 0, 7, 8)));
        Due.is("BORROWS", 2, () -> Wire.rows(b, 0, 1));
        b.set(0, 0, 0, 0, 0);
        Due.is("gone", 1, () -> Wire.rows(b, 0, 1));
        Due.is("its FIXED row, too", 0, () -> b.route(0, 0, 0, 5, -1));
        Due.state("it BORROWS still", () -> b.address(1, Due.a(11, 0, 0, 1), 24));
        InternetHouse o = Wire.pair(0);
        o.set(0, 13, 0, Due.a(10, 0, 0, 50), 1100);
        Due.inject(o, 0, Wire.lease(1, 9, 1, 0, 0, 0, 0, 0));
        o.run(1);
        o.set(0, 0, 0, 0, 0);
        o.set(0, 0, 1, 0, 0);
        int sent = o.count(0, 0);
        Due.inject(o, 0, Wire.lease(1, 8, 1, 0, 0, 0, 0, 0));
        o.run(1);
        Due.is("OFFERED still", sent, () -> o.count(0, 0));
    }

    private static void busyAndTokens() {
        InternetHouse x = Wire.pair(0);
        x.socket(0, 0, 9);
        x.connect(0, A2, 5);
        x.quality(0, 4, 8);
        Wire.known(x, 0, A1, A2, 5);
        x.run(3);
        Due.feed(x, new byte[97]);
        x.write(0);
        x.write(0);
        x.run(1);
        Due.is("128 bytes of 8: BUSY till 20", 2, () -> x.count(0, 0));
        x.set(0, 0, 0, 0, 0);
        x.set(0, 0, 1, 0, 0);
        x.run(1);
        x.echo(0, A9, 0, 32);
        x.run(14);
        Due.is("at 19", 2, () -> x.count(0, 0));
        x.run(1);
        Due.is("at 20: an ASK, what waited in the ROW is gone", 3, () -> x.count(0, 0));
        Due.is("at 20", 20, () -> x.seen(0, 0, -2));
        InternetHouse y = Wire.pair(0);
        y.set(0, 4, 0, 1, 15);
        y.echo(0, A9, 0, 32);
        y.run(1);
        Due.is("15 TOKENS are used", 1, () -> y.count(0, 0));
        y.set(0, 0, 0, 0, 0);
        y.set(0, 0, 1, 0, 0);
        y.echo(0, A9, 0, 32);
        y.run(1);
        Due.is("TOKENS are SIZE", 2, () -> y.count(0, 0));
        InternetHouse b = Wire.star();
        Wire.frame(b, 0, Due.frame(9, 5, 7, new byte[1]));
        Due.is("LEARNED", 5, () -> b.bridge(0, 4));
        b.set(0, 0, 0, 0, 0);
        for (int p = 0; p < 4; p++) {
            int k = p;
            Due.is("ROLE", 0, () -> b.bridge(k, 0));
            Due.is("FORWARDS", 0, () -> b.bridge(k, 1));
            Due.is("LEARNED", 0, () -> b.bridge(k, 4));
        }
    }

    /** Each call with the numbers of its promise wrong in more than one way: which exception names it. */
    private static void order() {
        Due.sentence("Calls name what they throw in the order in which it is looked at: NoSuchElementException: there is no such NODE, PORT, LINE, SOCKET or thing with a number; IllegalArgumentException: another number is not as said; IllegalStateException: as said there. A call that throws changes nothing.");
        InternetHouse x = new InternetHouse();
        for (int i = 0; i < 12; i++) {
            x.node(i == 1 ? 1 : 0);
        }
        x.line(0, 4, 1, 255, 148);
        x.socket(0, 2, 5);
        x.socket(0, 0, 6);
        x.close(1, 0);
        x.set(2, 0, 0, 0, 0);
        Due.feed(x, new byte[101]);
        String before = Snapshot.of(x);
        Due.argument("node: kind, 12", () -> x.node(5));
        Due.missing("line: PORT, delay, has one", () -> x.line(0, 50, 0, 8, 60));
        Due.argument("line: delay, has one", () -> x.line(0, 8, 0, 8, 60));
        Due.state("line: has one", () -> x.line(0, 8, 1, 8, 60));
        Due.missing("quality: LINE, what", () -> x.quality(5, 9, 0));
        Due.argument("quality: what", () -> x.quality(0, 9, 0));
        Due.missing("address: PORT, BITS, BRIDGE", () -> x.address(48, 0, 40));
        Due.argument("address: BITS, BRIDGE", () -> x.address(4, A1, 40));
        Due.state("address: BRIDGE", () -> x.address(4, A1, 24));
        Due.missing("route: NODE, BITS", () -> x.route(12, 1, 40, 0, 1));
        Due.argument("route: BITS, BRIDGE", () -> x.route(1, 1, 40, 0, 1));
        Due.state("route: BRIDGE", () -> x.route(1, 0, 0, 0, 1));
        Due.missing("set: NODE, what", () -> x.set(12, 40, 0, 0, 0));
        Due.argument("set: what, kind", () -> x.set(1, 40, 0, 0, 0));
        Due.argument("set: number, kind", () -> x.set(1, 5, 7, 0, 0));
        Due.state("set: kind", () -> x.set(1, 5, 1, 0, 0));
        Due.missing("load: NODE, kind", () -> x.load(12, 9));
        Due.argument("load: kind, BRIDGE", () -> x.load(1, 9));
        Due.state("load: BRIDGE", () -> x.load(1, 0));
        Due.argument("run", () -> x.run(0));
        Due.missing("inject: PORT", () -> x.inject(48));
        Due.state("inject: down", () -> x.inject(8));
        Due.missing("seen: PORT", () -> x.seen(48, 0, 0));
        Due.missing("count: NODE, what", () -> x.count(12, 99));
        Due.argument("count: what", () -> x.count(0, 99));
        Due.missing("bridge: PORT, what", () -> x.bridge(48, 99));
        Due.argument("bridge: what, kind", () -> x.bridge(0, 99));
        Due.state("bridge: kind", () -> x.bridge(0, 0));
        Due.missing("way: NODE", () -> x.way(12, 0, 0));
        Due.state("way: BRIDGE", () -> x.way(1, 0, 0));
        Due.missing("echo: NODE, bytes", () -> x.echo(12, A1, 500, 0));
        Due.argument("echo: bytes, BRIDGE", () -> x.echo(1, A1, 500, 5));
        Due.argument("echo: HOPS, down", () -> x.echo(2, A1, 5, 0));
        Due.state("echo: down", () -> x.echo(2, A1, 5, 5));
        Due.missing("socket: NODE, kind", () -> x.socket(12, 9, 5));
        Due.argument("socket: kind, BRIDGE", () -> x.socket(1, 9, 5));
        Due.argument("socket: port, down", () -> x.socket(2, 0, 70000));
        Due.state("socket: the port", () -> x.socket(0, 1, 5));
        Due.missing("connect: SOCKET, port", () -> x.connect(9, A1, 0));
        Due.argument("connect: port, KIND 2", () -> x.connect(0, A1, 0));
        Due.state("connect: KIND 2", () -> x.connect(0, A1, 5));
        Due.missing("accept: SOCKET", () -> x.accept(9));
        Due.state("accept: does not LISTEN", () -> x.accept(1));
        Due.missing("write: SOCKET, 101", () -> x.write(9));
        Due.argument("write: 101, CLOSED", () -> x.write(1));
        Due.state("write: KIND 2", () -> x.write(0));
        Due.missing("read: SOCKET, n", () -> x.read(9, 0));
        Due.argument("read: n, KIND 2", () -> x.read(0, 0));
        Due.state("read: KIND 2", () -> x.read(0, 5));
        Due.missing("close: SOCKET, how", () -> x.close(9, 9));
        Due.argument("close: how", () -> x.close(0, 9));
        Due.missing("state: SOCKET, what", () -> x.state(9, 99));
        Due.argument("state: what", () -> x.state(0, 99));
        Due.missing("ask: NODE, kind", () -> x.ask(12, 9));
        Due.argument("ask: kind, BRIDGE", () -> x.ask(1, 9));
        Due.argument("ask: no NAME, does not RESOLVE", () -> x.ask(0, 1));
        Due.missing("answer: NODE", () -> x.answer(12, 0, 0));
        Due.missing("answer: QUESTION", () -> x.answer(0, 4, 0));
        Due.missing("look: NODE, what", () -> x.look(12, 99, 0, 0));
        Due.argument("look: what, BRIDGE", () -> x.look(1, 99, 0, 0));
        Due.state("look: BRIDGE", () -> x.look(1, 15, 0, 0));
        Due.missing("look: ROW", () -> x.look(0, 15, 1, 0));
        Due.argument("map: what", () -> x.map(9, 99, 0));
        Due.missing("map: NODE", () -> x.map(0, 12, 0));
        Due.missing("capture: LINE, what", () -> x.capture(9, 9));
        Due.argument("capture: what", () -> x.capture(0, 9));
        Due.missing("octet", () -> x.octet(0));
        Due.argument("end", () -> x.end(102));
        Due.said("nothing is changed", Snapshot.of(x), before);
    }

    private static void manyCalls() {
        Due.sentence("An object is used for at most 512 calls after it has been made; what later calls answer is free.");
        InternetHouse x = Wire.pair(0);
        x.socket(1, 2, 80);
        x.socket(0, 1, 0);
        x.connect(1, A2, 80);
        x.run(20);
        x.accept(0);
        int sent = 0;
        int got = 0;
        for (int calls = 20; calls + 4 < 510; calls += 4) {
            x.feed(1, 2, 3, 4, 5);
            sent += x.write(1);
            x.run(40);
            got += Math.max(0, x.read(2, 200));
        }
        x.run(40);
        got += Math.max(0, x.read(2, 200));
        int want = sent;
        int have = got;
        Due.is("as the first ones", want, () -> have);
        Due.is("all", 122 * 20, () -> want);
    }

    public static void main(String[] args) {
        bridges();
        ways();
        outer();
        streams();
        resolving();
        goesDown();
        order();
        manyCalls();
        Due.end("BoundsRestTest");
    }
}
