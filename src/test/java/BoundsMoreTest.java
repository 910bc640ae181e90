/** More boundary cases: what is sent as bytes, what is empty or first, what stays. */
public final class BoundsMoreTest {
    private static final int A1 = Wire.A1;
    private static final int A2 = Wire.A2;
    private static final int B1 = Wire.B1;
    private static final int B2 = Wire.B2;
    private static final int A9 = Due.a(10, 0, 0, 9);
    private static final byte[] NONE = new byte[0];
    private static final int FIRST = Wire.draw(0) >>> 16 << 16 | Wire.draw(Wire.draw(0)) >>> 16;

    private static int net(int i) {
        return Due.a(20, i, 0, 0);
    }

    private static void same(String what, byte[] got, byte[] want) {
        Due.said(what, java.util.Arrays.toString(got), java.util.Arrays.toString(want));
    }

    private static void packets() {
        Due.sentence("to ALL or a GROUP: in a FRAME TO 255.");
        InternetHouse x = Wire.pair(0);
        x.route(0, 0, 0, A2, 1);
        int[] to = {-1, Due.a(224, 0, 0, 0), Due.a(224, 255, 255, 255)};
        for (int t : to) {
            x.echo(0, t, 0, 5);
            x.run(1);
            Due.is("KIND 3", 3, () -> x.seen(0, 0, 2));
            Due.is("TO 255", 255, () -> x.seen(0, 0, 0));
        }
        Due.sentence("At CLOCK, of each PORT (by number) for each ADDRESS that is WAITED for (the first made first)");
        InternetHouse y = Wire.chain(148);
        y.echo(1, B2 + 1, 0, 32);
        y.echo(1, A2 + 9, 0, 32);
        y.echo(1, A2 + 5, 0, 32);
        y.run(25);
        int[] number = {1, 2, 0};
        for (int i = 0; i < 3; i++) {
            int k = i;
            Due.is("told " + k, number[k], () -> y.look(1, 13, k, 0));
        }
        Due.sentence("KIND 0: the NET of each PORT with an ADDRESS and a LINE that is whole (COST 0, NEXT 0).");
        InternetHouse z = new InternetHouse();
        z.node(0);
        z.node(0);
        z.address(0, A1, 24);
        Due.is("no LINE", -1, () -> z.way(0, 0, A2));
        z.line(0, 4, 1, 8, 60);
        Due.is("a LINE", 256L * A2, () -> z.way(0, 0, A2));
        Due.is("the first of its NET", 256L * Due.a(10, 0, 0, 0), () -> z.way(0, 0, Due.a(10, 0, 0, 0)));
        Due.is("the last of its NET", 256L * Due.a(10, 0, 0, 255), () -> z.way(0, 0, Due.a(10, 0, 0, 255)));
        Due.is("behind it", -1, () -> z.way(0, 0, Due.a(10, 0, 1, 0)));
        Due.is("before it", -1, () -> z.way(0, 0, Due.a(9, 255, 255, 255)));
        z.quality(0, 6, 1);
        Due.is("CUT", -1, () -> z.way(0, 0, A2));
        Due.sentence("Of an ECHO an ANSWER is sent back, with CODE 0, its NUMBERS and bytes, FROM its TO (if that is the NODE's ADDRESS).");
        InternetHouse u = Wire.chain(148);
        Wire.known(u, 4, A2, A1, 1);
        u.run(2);
        int[] echoTo = {A2, B1, -1};
        int[] from = {A2, B1, A2};
        for (int i = 0; i < 3; i++) {
            Due.inject(u, 4, Due.packet(1, 9, 0, 0, A1, echoTo[i], Due.control(8, 7, 65535, 65534, Due.bytes(1, 2, 3))));
            u.run(1);
            int k = i;
            Due.is("FROM", from[k], () -> Wire.u32(Wire.sent(u, 4, 0), 3 + 10));
            same("ANSWER", Wire.data(u, 4, 0), Due.control(0, 0, 65535, 65534, Due.bytes(1, 2, 3)));
        }
        Due.sentence("(Of a PACKET of one's own it waits INSIDE.) An ANSWER that is TAKEN is told (its first NUMBER, 0, CODE, FROM, TIME).");
        InternetHouse v = Wire.pair(0);
        v.run(3);
        v.echo(0, Due.a(99, 0, 0, 1), 0, 32);
        Due.is("an ERROR less", 5, () -> v.look(0, 15, 0, 5));
        Due.is("not told yet", 0, () -> Wire.rows(v, 0, 13));
        v.run(1);
        Due.is("told at 4", 4, () -> v.look(0, 13, 0, 4));
        Due.inject(v, 0, Due.packet(1, 9, 0, 0, A9, A1, Due.control(0, 255, 65535, 3, NONE)));
        long[] want = {65535, 0, 255, A9, 4};
        for (int k = 0; k < 5; k++) {
            int i = k;
            Due.is("ANSWER " + i, want[i], () -> v.look(0, 13, 1, i));
        }
        Due.sentence("6: PIECE: 128 if MORE follow, 64 if it must stay WHOLE, its lowest 5 bits the PLACE of its DATA in eights; 7: 0;");
        InternetHouse w = Wire.pair(0);
        for (int piece : new int[] {0, 32, 64, 96}) {
            Due.inject(w, 0, Due.packet(99, 9, 0, piece, A2, A1, new byte[3]));
        }
        Due.is("whole ones", 4, () -> w.count(0, 9));
        for (int place = 1; place < 32; place++) {
            Due.inject(w, 0, Due.packet(99, 9, place, 64 | place, A2, A1, new byte[3]));
        }
        Due.is("PLACES 1 to 31 are pieces", 4, () -> w.count(0, 9));
        Due.is("those beyond 130: 16 and more, 3 bytes", 16, () -> w.count(0, 6));
    }

    private static void wayFinding() {
        Due.sentence("If that is not as the ROW in its BOOK, it is put there with a NUMBER of 1 more and goes OUT.");
        InternetHouse x = Wire.pair(2);
        x.set(0, 6, 1, 0, 0);
        Due.is("none yet", 0, () -> Wire.rows(x, 0, 3));
        x.run(1);
        Due.is("1", 1, () -> x.look(0, 3, 0, 2));
        x.run(9);
        Due.is("as it is", 1, () -> x.look(0, 3, 0, 2));
        x.set(0, 2, 0, 11, 0);
        Due.is("not before CLOCK", 1, () -> x.look(0, 3, 0, 2));
        x.run(1);
        Due.is("another COST", 2, () -> x.look(0, 3, 0, 2));
        x.address(0, A9, 24);
        x.run(1);
        Due.is("the same NET", 2, () -> x.look(0, 3, 0, 2));
        x.address(0, A9, 25);
        x.run(1);
        Due.is("another NET", 3, () -> x.look(0, 3, 0, 2));
        x.set(0, 6, 1, 0, 0);
        x.run(1);
        Due.is("what it had is gone: 1", 1, () -> x.look(0, 3, 0, 2));
        Due.sentence("in AREA 0 all NETS of its other AREAS (of its PORTS there, with the PORT's COST, and those FOUND by mark 0), in others all of AREA 0 (of its PORTS, and those FOUND by either mark),");
        InternetHouse y = Wire.chain(148);
        y.set(1, 7, 1, 1, 0);
        y.set(1, 6, 1, 0, 0);
        Due.inject(y, 4, Due.packet(89, 1, 0, 0, A1, -1, Due.bytes(1, 0, 5, 1)));
        Due.inject(y, 5, Due.packet(89, 1, 0, 0, B2, -1, Due.bytes(1, 1, 6, 1)));
        y.run(1);
        Due.is("AREA 0: its own, one of AREA 1", 2, () -> y.look(1, 3, 0, 4));
        Due.is("AREA 1: its own, one of AREA 0", 2, () -> y.look(1, 3, 1, 4));
        byte[] nets = Due.join(Wire.net(net(1), 16, 3, 0), Wire.net(net(2), 16, 3, 1));
        Due.inject(y, 4, Due.packet(89, 1, 0, 0, A1, -1, Due.join(Due.bytes(2, 0, 5, 5), Due.word(1), Due.bytes(1, 1, 1, 2), nets)));
        nets = Due.join(Wire.net(net(3), 16, 3, 0), Wire.net(net(4), 16, 3, 1));
        Due.inject(y, 5, Due.packet(89, 1, 0, 0, B2, -1, Due.join(Due.bytes(2, 1, 6, 6), Due.word(1), Due.bytes(1, 1, 1, 2), nets)));
        y.run(1);
        Due.is("AREA 0: one more by mark 0", 3, () -> y.look(1, 3, 0, 4));
        Due.is("AREA 1: two more by either mark", 4, () -> y.look(1, 3, 2, 4));
        Due.sentence("OPEN 0: it is UP anew (what was HEARD of it, what it was TOLD, what is under way is gone), and OPEN 1 is sent.");
        InternetHouse z = up(5);
        z.set(0, 10, net(1), 16, 1);
        z.run(2);
        Due.inject(z, 0, Wire.outer(A2, Due.bytes(5, 0, 1)));
        Due.inject(z, 0, Wire.outer(A2, Wire.tell(1, net(2), 16, A2, 0, 0, 100, 0, 5)));
        Due.is("HEARD", 1, () -> z.look(0, 6, 0, 3));
        Due.is("TOLD", 1, () -> z.look(0, 6, 0, 4));
        Due.inject(z, 0, Wire.outer(A2, Wire.open(0, 5, 7)));
        Due.is("HEARD: gone", 0, () -> z.look(0, 6, 0, 3));
        Due.is("TOLD: gone", 0, () -> z.look(0, 6, 0, 4));
        Due.is("UP", 2, () -> z.look(0, 6, 0, 2));
        Due.sentence("TELL of a NET puts a new one in place of the former; it is nothing (and the former gone) if the own SYSTEM is among its SYSTEMS, or POLICY IN refuses it. TAKE BACK: it is gone.");
        Wire.load(z, 0, 1, "in mark 9 refuse");
        Due.inject(z, 0, Wire.outer(A2, Wire.tell(1, net(2), 16, A2, 0, 5, 100, 0, 5)));
        Due.inject(z, 0, Wire.outer(A2, Wire.tell(2, net(2), 16, A2, 0, 6, 100, 0, 5)));
        Due.is("a new one", 6, () -> z.look(0, 7, 1, 6));
        Due.is("one", 1, () -> z.look(0, 6, 0, 3));
        Due.inject(z, 0, Wire.outer(A2, Wire.tell(3, net(2), 16, A2, 0, 6, 100, 9, 5)));
        Due.is("POLICY: the former is gone", 0, () -> z.look(0, 6, 0, 3));
        Due.inject(z, 0, Wire.outer(A2, Wire.tell(4, net(2), 17, A2, 0, 6, 100, 0, 5)));
        Due.inject(z, 0, Wire.outer(A2, Wire.takeBack(5, net(2), 16)));
        Due.is("of other BITS: it stays", 1, () -> z.look(0, 6, 0, 3));
        Due.inject(z, 0, Wire.outer(A2, Wire.takeBack(6, net(2), 17)));
        Due.is("gone", 0, () -> z.look(0, 6, 0, 3));
        Due.sentence("(POLICY: what was HEARD stays as it came.)");
        Due.inject(z, 0, Wire.outer(A2, Wire.tell(7, net(2), 16, A2, 0, 6, 100, 4, 5)));
        Wire.load(z, 0, 1, "in refuse");
        Due.is("it stays", 1, () -> z.look(0, 6, 0, 3));
        Due.is("as it came", 4, () -> z.look(0, 7, 1, 7));
        Due.sentence("to an INNER one as it is, but an own one with NEXT likewise; of these what POLICY OUT lets through, as it leaves it.");
        InternetHouse u = up(1);
        Wire.load(u, 0, 1, "out net 20.1.0.0/16 16 16 refuse\nout go med 7 degree 50 tag 8 prepend 1");
        u.set(0, 10, net(1), 16, 1);
        u.set(0, 10, net(2), 16, 1);
        u.run(3);
        same("TELL", Wire.data(u, 0, 0), Wire.tell(1, net(2), 16, A1, 0, 7, 50, 8, 1));
        Due.sentence("8: SYSTEM a; the PEERS are IDLE.");
        Due.is("the same SYSTEM", 1, () -> u.set(0, 8, 1, 0, 0));
        Due.is("IDLE", 0, () -> u.look(0, 6, 0, 2));
        Due.sentence("9: a PEER with ADDRESS a and SYSTEM b (anew; 0: it is gone).");
        Due.inject(u, 0, Wire.outer(A2, Wire.open(0, 1, 7)));
        Due.is("UP", 2, () -> u.look(0, 6, 0, 2));
        u.set(0, 9, A2, 1, 0);
        Due.is("anew: IDLE", 0, () -> u.look(0, 6, 0, 2));
        u.set(0, 9, A2, 0, 0);
        Due.is("gone", 0, () -> Wire.rows(u, 0, 6));
        Due.inject(u, 0, Wire.outer(A2, Wire.open(0, 1, 7)));
        Due.is("no PEER", 0, () -> Wire.rows(u, 0, 6));
        Due.sentence("IDLE: what was HEARD of it, what it was TOLD, and what is under way is gone.");
        InternetHouse idle = up(5);
        Due.inject(idle, 0, Wire.outer(A2, Wire.tell(1, net(3), 16, A2, 0, 0, 100, 0, 5)));
        idle.set(0, 10, net(1), 16, 1);
        idle.set(0, 10, net(2), 16, 1);
        idle.run(1);
        Due.inject(idle, 0, Wire.outer(A2, Due.bytes(5, 0, 1)));
        idle.run(1);
        Due.is("HEARD 1, TOLD 1", 11, () -> 10 * idle.look(0, 6, 0, 3) + idle.look(0, 6, 0, 4));
        Due.inject(idle, 0, Wire.outer(A2, Due.bytes(6)));
        Due.is("HEARD, TOLD", 0, () -> 10 * idle.look(0, 6, 0, 3) + idle.look(0, 6, 0, 4));
        Due.is("CHOSEN: its own alone", 2, () -> Wire.rows(idle, 0, 7));
        Due.inject(idle, 0, Wire.outer(A2, Wire.open(0, 5, 7)));
        Due.inject(idle, 0, Wire.outer(A2, Due.bytes(5, 0, 2)));
        Due.is("nothing is under way", 0, () -> idle.look(0, 6, 0, 4));
        Due.sentence("5, 6: DISTANCE, LINK is ON (a 1) or not (0): what it had is gone.");
        InternetHouse v = Wire.pair(2);
        v.set(0, 5, 1, 0, 0);
        Due.inject(v, 0, Wire.distance(A2, net(1), 16, 1));
        v.set(0, 5, 1, 0, 0);
        Due.is("ON once more: gone", 0, () -> Wire.rows(v, 0, 2));
        Due.is("ON", 1, () -> v.look(0, 15, 0, 1));
        v.set(0, 5, 0, 0, 0);
        Due.is("not ON", 0, () -> v.look(0, 15, 0, 1));
        v.run(20);
        Due.is("tells nothing", 0, () -> v.count(0, 0));
    }

    private static InternetHouse up(int system) {
        InternetHouse x = Wire.pair(2);
        x.set(0, 8, 1, 0, 0);
        x.set(0, 9, A2, system, 0);
        Wire.known(x, 0, A1, A2, 5);
        x.run(2);
        Due.inject(x, 0, Wire.outer(A2, Wire.open(0, system, 7)));
        x.run(1);
        return x;
    }

    private static InternetHouse lone() {
        InternetHouse x = Wire.pair(0);
        x.set(0, 0, 0, 0, 0);
        Wire.known(x, 4, A2, A1, 1);
        x.run(2);
        return x;
    }

    private static byte[] segment(int number, int ack, int flags, byte[] data) {
        return Wire.segment(number, ack, flags, 400, data);
    }

    private static void streams() {
        Due.sentence("DATAGRAMS (PROTOCOL 17), DATA: port from, port to, the length of all DATA, THE SUM of all DATA (2 bytes each), bytes.");
        InternetHouse x = Wire.pair(0);
        Wire.known(x, 0, A1, A2, 5);
        x.run(2);
        x.socket(0, 0, 65535);
        x.connect(0, A2, 1);
        for (int n : new int[] {0, 1, 100}) {
            Due.feed(x, new byte[n]);
            Due.is(n + " bytes", n, () -> x.write(0));
            x.run(1);
            same(n + " bytes", Wire.data(x, 0, 0), Due.datagram(65535, 1, new byte[n]));
        }
        Due.sentence("Each SEGMENT but a SYN in SYN SENT and a RST (if not said otherwise) has ACK set, the ACK RCV (others 0).");
        Due.sentence("SYN: NUMBER FIRST; UNA is FIRST, NEXT 1 more.");
        InternetHouse y = lone();
        y.socket(1, 1, 80);
        y.connect(0, A1, 7);
        y.run(1);
        same("SYN", Wire.data(y, 4, 0), bare(FIRST, 0, 2, 400));
        Due.is("FLIGHT", 1, () -> y.state(0, 9));
        Due.is("NEXT", 1, () -> y.state(0, 14));
        Due.inject(y, 4, segment(-1, FIRST + 1, 18, NONE));
        y.run(1);
        same("ACK of 0, behind the greatest NUMBER", Wire.data(y, 4, 0), bare(FIRST + 1, 0, 16, 400));
        y.close(0, 1);
        y.run(1);
        same("RST", Wire.data(y, 4, 0), bare(FIRST + 1, 0, 4, 400));
        InternetHouse cross = lone();
        cross.socket(1, 1, 80);
        cross.connect(0, A1, 7);
        Due.inject(cross, 4, segment(99, 0, 2, NONE));
        Due.is("SYN CAME", 3, () -> cross.state(0, 0));
        cross.run(2);
        same("a SYN with ACK", Wire.data(cross, 4, 0), bare(FIRST, 100, 18, 400));
        Due.sentence("SYN: RCV its NUMBER + 1, FAR WINDOW its WINDOW; with ACK: UNA is ACK, OPEN, TRIES 0, the TIMER off, an ACK is sent, it PUSHES; without: SYN CAME, a SYN with ACK is sent.");
        InternetHouse z = lone();
        z.socket(1, 1, 80);
        z.connect(0, A1, 7);
        Due.feed(z, "abc");
        z.write(0);
        z.run(12);
        Due.is("TRIES", 1, () -> z.state(0, 15));
        Due.inject(z, 4, Wire.segment(Integer.MAX_VALUE, FIRST + 1, 18, 65535, NONE));
        Due.is("OPEN", 4, () -> z.state(0, 0));
        Due.is("TRIES 0", 0, () -> z.state(0, 15));
        Due.is("FAR WINDOW", 65535, () -> z.state(0, 8));
        Due.is("it PUSHES", 3, () -> z.state(0, 9));
        z.run(2);
        Due.is("the ACK is 1 more than the greatest int", Integer.MIN_VALUE, () -> Wire.u32(Wire.data(z, 4, 1), 8));
        Due.sentence("of one that came of LISTEN: TO of the SYN, if that is an ADDRESS of the NODE, else 0); 0: each time the FROM of a PACKET that is sent there.");
        InternetHouse w = Wire.chain(148);
        w.set(0, 0, 0, 0, 0);
        w.socket(1, 2, 80);
        Wire.known(w, 4, A2, A1, 1);
        w.run(2);
        int[] to = {A2, B1, -1};
        int[] from = {A2, B1, A2};
        for (int i = 0; i < 3; i++) {
            byte[] d = Due.join(Wire.half(7 + i), Wire.half(80), Due.word(99), Due.word(0), Due.bytes(2, 0), Wire.half(400), Wire.half(0));
            Due.inject(w, 4, Due.packet(6, 9, 0, 64, A1, to[i], Due.summed(d, 16)));
            w.run(1);
            int k = i;
            Due.is("FROM", from[k], () -> Wire.u32(Wire.sent(w, 4, 0), 3 + 10));
        }
        Due.sentence("If its FIN is thanked for: FIN WAIT 1 becomes FIN WAIT 2, CLOSING TIME WAIT, LAST ACK CLOSED (then nothing more).");
        Due.sentence("RCV goes on over all that are in order, and over the FIN: OPEN becomes CLOSE WAIT, FIN WAIT 1 CLOSING, FIN WAIT 2 TIME WAIT.");
        // close first (1) or not; then what comes: bytes thanked for of 3 and FIN, FIN set; STATES.
        int[][][] cases = {{{0, 0, 1, 7}}, {{1, 0, 0, 5}, {0, 3, 0, 5}, {0, 4, 0, 6}, {0, 4, 1, 10}}, {{1, 0, 1, 8}, {0, 3, 0, 8}, {0, 4, 0, 10}},
            {{1, 4, 1, 10}}, {{0, 3, 1, 7}, {1, 3, 0, 9}, {0, 4, 0, 0}}, {{1, 3, 1, 8}, {0, 4, 1, 10}}};
        for (int[][] c : cases) {
            InternetHouse s = lone();
            s.socket(1, 2, 80);
            Due.inject(s, 4, segment(100, 0, 2, NONE));
            Due.inject(s, 4, segment(101, FIRST + 1, 16, NONE));
            Due.feed(s, "abc");
            s.write(1);
            boolean fin = false;
            for (int[] step : c) {
                if (step[0] == 1) {
                    s.close(1, 0);
                }
                Due.inject(s, 4, segment(fin ? 102 : 101, FIRST + 1 + step[1], 16 | (fin ? 0 : step[2]), NONE));
                fin = fin || step[2] == 1;
                Due.is(java.util.Arrays.deepToString(c), step[3], () -> s.state(1, 0));
            }
        }
        Due.sentence("how 0: KIND 0, LISTEN, SYN SENT: CLOSED (what waits to be read of KIND 0 is gone); OPEN: FIN WAIT 1, CLOSE WAIT: LAST ACK (it PUSHES); others stay.");
        InternetHouse k = Wire.pair(0);
        k.socket(0, 0, 5);
        Due.inject(k, 0, Due.packet(17, 9, 0, 0, A2, A1, Due.datagram(5, 5, NONE)));
        Due.is("to read", 1, () -> k.state(0, 2));
        Due.is("KIND 0", 0, () -> k.close(0, 0));
        Due.is("gone", 0, () -> k.state(0, 2));
        Due.is("CLOSED stays", 0, () -> k.close(0, 0));
        k.socket(0, 2, 5);
        Due.is("LISTEN", 0, () -> k.close(1, 0));
    }

    private static byte[] bare(int number, int ack, int flags, int window) {
        byte[] h = Due.join(Wire.half(80), Wire.half(7), Due.word(number), Due.word(ack), Due.bytes(flags, 0), Wire.half(window), Wire.half(0));
        return Due.summed(h, 16);
    }

    private static void leasesAndNames() {
        Due.sentence("NUMBER (2), ADDRESS, BITS, LIFE (2), SERVER, GATE (ADDRESSES); what is not told here is 0.");
        InternetHouse x = Wire.pair(0);
        x.set(0, 13, 0, Due.a(10, 0, 0, 50), 1500);
        Due.inject(x, 0, Wire.lease(1, 47, 65535, 1, 2, 3, 4, 5));
        x.run(1);
        byte[] offer = Due.join(Due.bytes(2, 47), Wire.half(65535), Due.word(Due.a(10, 0, 0, 50)), Due.bytes(24), Wire.half(500), Due.word(A1), Due.word(A1));
        same("OFFER", Wire.data(x, 0, 0), offer);
        Due.sentence("(OFFERS are put in a FRAME TO the LINK ADDRESS CLIENT + 1, all others TO 255.)");
        Due.is("CLIENT 47", 48, () -> x.seen(0, 0, 0));
        Due.inject(x, 0, Wire.lease(3, 47, 7, Due.a(10, 0, 0, 50), 9, 9, A1, 9));
        x.run(1);
        offer[0] = 4;
        offer[2] = 0;
        offer[3] = 7;
        same("GIVEN", Wire.data(x, 0, 0), offer);
        Due.is("TO 255", 255, () -> x.seen(0, 0, 0));
        Due.inject(x, 0, Wire.lease(3, 46, 7, Due.a(10, 0, 0, 50), 9, 9, A1, 9));
        x.run(1);
        same("NO", Wire.data(x, 0, 0), Due.join(Due.bytes(5, 46, 0, 7), Due.word(Due.a(10, 0, 0, 50)), Due.bytes(0, 0, 0), Due.word(A1), Due.word(0)));
        InternetHouse b = new InternetHouse();
        b.node(0);
        b.node(0);
        b.line(3, 4, 1, 255, 148);
        b.set(0, 14, 3, 1, 0);
        b.run(1);
        int id = Wire.draw(0) >>> 16;
        same("WANT", Wire.sent(b, 3, 0), Due.frame(255, 4, 3, Due.packet(67, 1, 0, 0, 0, -1, Due.join(Due.bytes(1, 3), Wire.half(id), new byte[15]))));
        Due.sentence("the PORT has ADDRESS and BITS (if it is another: what it had FOUND, what WAITS is gone)");
        Due.inject(b, 3, Wire.lease(2, 3, id, A1, 24, 100, A2, A2));
        Due.inject(b, 3, Wire.lease(4, 3, id, A1, 24, 100, A2, A2));
        Wire.known(b, 3, A1, A9, 77);
        Due.inject(b, 3, Wire.lease(4, 3, id, A1, 25, 100, A2, A2));
        Due.is("the same: FOUND stays", 1, () -> Wire.rows(b, 0, 0));
        Due.is("BITS", 25, () -> b.look(0, 1, 0, 2));
        Due.inject(b, 3, Wire.lease(4, 3, id, A2, 25, 100, A2, A2));
        Due.is("another: gone", 0, () -> Wire.rows(b, 0, 0));
        Due.is("ADDRESS", A2, () -> b.look(0, 1, 0, 1));
        Due.inject(b, 3, Wire.lease(5, 3, id, A2, 25, 100, A2, A2));
        Due.is("NO", 0, () -> Wire.rows(b, 0, 1));
        int before = b.count(0, 0);
        b.run(1);
        Due.sentence("14: PORT a BORROWS (b 1; one that does already stays as it is) or not (0: what it had is gone).");
        b.set(0, 14, 3, 1, 0);
        b.run(7);
        Due.is("TAKE, ANSWER and WANT went; no WANT anew", before + 3, () -> b.count(0, 0));
        b.set(0, 14, 3, 0, 0);
        b.set(0, 14, 3, 1, 0);
        b.run(1);
        Due.is("a WANT at its first CLOCK", before + 4, () -> b.count(0, 0));
        Due.sentence("(With 1 and 2 one ROW: of KIND 0, with the ZONE's NAME and LIFE, and 0 letters.)");
        InternetHouse y = Wire.pair(0);
        y.set(1, 0, 0, 0, 0);
        Wire.known(y, 0, A1, A2, 5);
        y.run(2);
        Wire.load(y, 0, 2, "zone . 500\na.b 5 text 65535\nzone c.d 1\n*.c.d 5 ns .");
        Object[][] asked = {{"z", 1, Wire.noRow(500, ".")}, {"b", 2, Wire.noRow(500, ".")}, {"a.b", 2, Wire.noRow(500, ".")}, {"c.d", 2, Wire.noRow(1, "c.d")},
            {"y.x.c.d", 1, Wire.noRow(1, "c.d")}};
        for (Object[] q : asked) {
            Due.inject(y, 0, Wire.question(A2, A1, 65535, 1, (String) q[0]));
            y.run(1);
            same((String) q[0], Wire.data(y, 0, 0), Due.join(Due.bytes(1, 255, 255, (Integer) q[1], 1), (byte[]) q[2]));
        }
        Due.inject(y, 0, Wire.question(A2, A1, 0, 4, "a.b"));
        y.run(1);
        same("TEXT", Wire.data(y, 0, 0), Due.join(Due.bytes(1, 0, 0, 0, 1), Wire.row(4, 5, "a.b", 65535)));
        Due.inject(y, 0, Wire.question(A2, A1, 0, 2, "x.c.d"));
        y.run(1);
        same("* with a NAME of the ROOT", Wire.data(y, 0, 0), Due.join(Due.bytes(1, 0, 0, 0, 1), Wire.row(2, 5, "x.c.d", ".")));
        Due.sentence("ROWS of KIND and NAME in the CACHE: it is answered with them; \"no\" of the NAME: with 1; else of the KIND: with 2.");
        InternetHouse z = Wire.pair(0);
        z.set(1, 0, 0, 0, 0);
        z.set(0, 15, A2, 0, 0);
        int c = Wire.draw(0);
        ask(z, "a", 1);
        Due.inject(z, 0, Wire.reply(A2, A1, c >>> 16, 2, Wire.noRow(50, ".")));
        Due.is("of the KIND", 2, () -> z.answer(0, 0, 0));
        c = Wire.draw(c);
        ask(z, "a", 4);
        Due.inject(z, 0, Wire.reply(A2, A1, c >>> 16, 1, Wire.noRow(50, ".")));
        ask(z, "a", 1);
        Due.is("of the NAME, before that of the KIND", 1, () -> z.answer(0, 0, 0));
        c = Wire.draw(c);
        ask(z, "b", 2);
        Due.inject(z, 0, Wire.reply(A2, A1, c >>> 16, 0, Wire.row(2, 50, "b", "n"), Wire.row(1, 50, "a", 7)));
        ask(z, "a", 1);
        Due.is("ROWS, before \"no\"", 0, () -> z.answer(0, 0, 0));
        ask(z, "a", 2);
        Due.is("\"no\" of the NAME is for each KIND", 1, () -> z.answer(0, 0, 0));
    }

    private static void ask(InternetHouse x, String name, int kind) {
        Due.feed(x, name);
        Due.is("ask " + name, 0, () -> x.ask(0, kind));
    }

    private static void maps() {
        Due.sentence("(each NEXT is the first NODE, another one, UP, with a PORT with that ADDRESS that FRAMES from this PORT reach: over one whole LINE, or over such and UP BRIDGES, in and out by PORTS that FORWARD, the fewest LINES);");
        InternetHouse x = new InternetHouse();
        x.node(0);
        for (int i = 1; i < 4; i++) {
            x.node(1);
        }
        x.node(0);
        x.node(0);
        x.line(0, 4, 1, 255, 148);
        x.line(5, 8, 1, 255, 148);
        x.line(9, 16, 1, 255, 148);
        x.line(6, 20, 1, 255, 148);
        x.address(0, A1, 24);
        x.address(16, A2, 24);
        Due.is("nothing FORWARDS", -1, () -> x.map(0, 0, A2));
        x.run(10);
        Due.is("3 LINES", 3, () -> x.map(0, 0, A2));
        x.address(20, A2, 24);
        Due.is("the first NODE of two", 3, () -> x.map(0, 0, A2));
        x.set(4, 0, 0, 0, 0);
        Due.is("it is down: the other one", 2, () -> x.map(0, 0, A2));
        x.quality(3, 6, 1);
        Due.is("its LINE is CUT", -1, () -> x.map(0, 0, A2));
        x.set(4, 0, 1, 0, 0);
        x.set(2, 0, 0, 0, 0);
        Due.is("a BRIDGE is down", -1, () -> x.map(0, 0, A2));
        InternetHouse direct = Wire.pair(0);
        Due.is("one LINE", 1, () -> direct.map(0, 0, A2));
        Due.is("itself", 0, () -> direct.map(0, 1, A2));
        direct.set(1, 0, 0, 0, 0);
        Due.is("itself, down", 0, () -> direct.map(0, 1, A2));
        InternetHouse line = new InternetHouse();
        for (int i = 0; i < 12; i++) {
            line.node(2);
        }
        for (int i = 0; i < 11; i++) {
            line.line(4 * i, 4 * i + 5, 1, 255, 148);
            line.address(4 * i, Due.a(10, 0, i, 1), 24);
            line.address(4 * i + 5, Due.a(10, 0, i, 2), 24);
            line.route(i, Due.a(10, 0, 10, 0), 24, Due.a(10, 0, i, 2), 1);
        }
        Due.is("11 steps", 11, () -> line.map(0, 0, Due.a(10, 0, 10, 2)));
        line.route(11, Due.a(10, 0, 99, 0), 24, Due.a(10, 0, 10, 1), 1);
        line.route(10, Due.a(10, 0, 99, 0), 24, Due.a(10, 0, 10, 2), 1);
        Due.is("to and fro, more than 32", -1, () -> line.map(0, 11, Due.a(10, 0, 99, 1)));
        Due.sentence("1: D(a, b) over all ROUTERS that are UP with LINK ON: two PORTS with ADDRESSES in one NET and AREA that reach each other, with the first one's COST (0 from such a ROUTER to itself);");
        for (int i = 0; i < 12; i++) {
            line.set(i, 6, 1, 0, 0);
        }
        Due.is("11 LINKS of 10", 110, () -> line.map(1, 0, 11));
        line.set(5, 6, 0, 0, 0);
        Due.is("one is not ON", -1, () -> line.map(1, 0, 11));
        Due.is("up to it", 40, () -> line.map(1, 0, 4));
        Due.sentence("2: 1 if any two UP ROUTERS with LINK ON whose PORTS are so connected have the same BOOK of that AREA, else 0.");
        Due.is("no ROWS yet", 1, () -> line.map(2, 0, 0));
        line.run(1);
        Due.is("each its own", 0, () -> line.map(2, 0, 0));
        Due.sentence("OUT becomes them: each TIME (4 bytes), PORT, length, its bytes as sent (as many as are whole within 512)");
        InternetHouse c = Wire.pair(0);
        Wire.runs(c, 300);
        c.capture(0, 1);
        Wire.known(c, 4, A2, A1, 1);
        c.run(1);
        c.capture(0, 2);
        Due.is("TIME 301", 256 + 45, () -> c.octet(2) * 256 + c.octet(3));
        Due.is("PORT 4", 4, () -> c.octet(4));
        Due.is("15 bytes", 15, () -> c.octet(5));
        Due.is("no more", 21, () -> c.octet(-1));
    }

    private static void unit() {
        Due.sentence("2. The COPIES on LINES whose time it is ARRIVE, in the order in which they were put there. 3. The CLOCKS of the NODES that are UP, by their numbers");
        // HOSTS 1 and 2 send an ASK at 7 to BRIDGE 0; both ARRIVE at 9, and go to HOST 3.
        InternetHouse x = new InternetHouse();
        x.node(1);
        for (int i = 1; i < 4; i++) {
            x.node(0);
            x.line(i - 1, 4 * i, 1, 255, 148);
            x.address(4 * i, Due.a(10, 0, 0, i), 24);
        }
        x.run(6);
        x.echo(2, A9, 0, 32);
        x.echo(1, A9, 0, 32);
        x.run(4);
        Due.is("of HOST 1 first", 5, () -> x.seen(2, 1, 1));
        Due.is("then of HOST 2", 9, () -> x.seen(2, 0, 1));
        Due.sentence("NODES 0, 1, .., at most 12: HOSTS (kind 0), BRIDGES (1), ROUTERS (2); UP (at first) or down.");
        InternetHouse y = Wire.pair(0);
        y.set(0, 0, 0, 0, 0);
        y.set(0, 14, 1, 1, 0);
        y.run(5);
        Due.is("no CLOCK when it is down", 0, () -> y.look(0, 15, 0, 6));
        Due.is("TIME goes on", 6, () -> y.run(1));
    }

    public static void main(String[] args) {
        packets();
        wayFinding();
        streams();
        leasesAndNames();
        maps();
        unit();
        Due.end("BoundsMoreTest");
    }
}
