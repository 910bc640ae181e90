/** Boundary cases of SOCKETS, DATAGRAMS and STREAMS, and of promises 19 to 25. */
public final class BoundsSocketTest {
    private static final int A1 = Wire.A1;
    private static final int A2 = Wire.A2;
    private static final byte[] NONE = new byte[0];
    private static final int FIN = 1;
    private static final int SYN = 2;
    private static final int RST = 4;
    private static final int ACK = 16;
    /** The SOCKET that came of the one that LISTENS. */
    private static final int C = 1;

    private static int first(int seed) {
        int a = Wire.draw(seed);
        return a >>> 16 << 16 | Wire.draw(a) >>> 16;
    }

    /** A CHANCE with which FIRST is from least to most: by a CHANCE between the two DRAWS, and back from there. */
    private static int seedFor(int least, int most) {
        int inverse = 1;
        for (int i = 0; i < 5; i++) {
            inverse *= 2 - 1664525 * inverse;
        }
        for (int low = 0; low < 65536; low++) {
            int between = least & 0xFFFF0000 | low;
            int f = least & 0xFFFF0000 | Wire.draw(between) >>> 16;
            if (f >= least && f <= most) {
                int seed = (between - 1013904223) * inverse;
                Due.is("FIRST of a CHANCE that was looked for", f, () -> first(seed));
                return seed;
            }
        }
        Due.said("a CHANCE for FIRST " + least + " to " + most, "none", "one");
        return 0;
    }

    /** HOST 1 (10.0.0.2 at PORT 4) with 10.0.0.1 KNOWN and FOUND; the HOST that has that is down. */
    private static InternetHouse lone(int seed) {
        InternetHouse x = Wire.pair(0, seed);
        x.set(0, 0, 0, 0, 0);
        Wire.known(x, 4, A2, A1, 1);
        return x;
    }

    private static void in(InternetHouse x, int number, int ack, int flags, int window, byte[] data) {
        Due.inject(x, 4, Wire.segment(number, ack, flags, window, data));
    }

    /** HOST 1 with a SOCKET 0 that LISTENS at 80, and SOCKET 1 that came of it, OPEN to 10.0.0.1, 7. */
    private static InternetHouse open(int seed, int peer, int window) {
        InternetHouse x = lone(seed);
        x.socket(1, 2, 80);
        in(x, peer, 0, SYN, window, NONE);
        in(x, peer + 1, first(seed) + 1, ACK, window, NONE);
        Due.is("OPEN", 4, () -> x.state(C, 0));
        x.run(3);
        return x;
    }

    private static InternetHouse open() {
        return open(0, 100, 400);
    }

    private static final int UNA = first(0) + 1;
    private static final int RCV = 101;

    private static void write(InternetHouse x, int s, int bytes) {
        Due.feed(x, new byte[bytes]);
        x.write(s);
    }

    /** The FLAGS, NUMBER less UNA, ACK less RCV, bytes of the i-th SEGMENT that HOST 1 sent. */
    private static String sent(InternetHouse x, int i) {
        byte[] d = Wire.data(x, 4, i);
        return (d[12] & 255) + " " + (Wire.u32(d, 4) - UNA) + " " + (Wire.u32(d, 8) - RCV) + " " + (d.length - 18);
    }

    private static void sockets() {
        InternetHouse x = Wire.pair(0);
        x.node(1);
        Due.sentence("SOCKETS 0, 1, .., at most 32 in all: of a HOST or ROUTER, a KIND (0 DATAGRAMS, 1 a STREAM that calls, 2 one that LISTENS), a port (1 to 65535).");
        Due.missing("NODE 3", () -> x.socket(3, 0, 1));
        Due.missing("NODE before KIND", () -> x.socket(-1, 3, 1));
        Due.sentence("IllegalArgumentException: kind, port.");
        Due.argument("KIND -1", () -> x.socket(0, -1, 1));
        Due.argument("KIND 3", () -> x.socket(0, 3, 1));
        Due.argument("port -1", () -> x.socket(0, 0, -1));
        Due.argument("port 65536", () -> x.socket(0, 0, 65536));
        Due.is("port 1", 0, () -> x.socket(0, 0, 1));
        Due.is("port 65535", 1, () -> x.socket(0, 1, 65535));
        Due.sentence("IllegalStateException: a BRIDGE, it is down, there are 32, or such a one has the port (those that came of one that LISTENS not looked at).");
        Due.argument("numbers before the BRIDGE", () -> x.socket(2, 3, 1));
        Due.state("a BRIDGE", () -> x.socket(2, 0, 1));
        Due.state("DATAGRAMS of port 1", () -> x.socket(0, 0, 1));
        Due.state("LISTEN at the port of a STREAM", () -> x.socket(0, 2, 65535));
        Due.is("a STREAM at the port of DATAGRAMS", 2, () -> x.socket(0, 2, 1));
        Due.state("a STREAM at the port of one that LISTENS", () -> x.socket(0, 1, 1));
        Due.is("another NODE", 3, () -> x.socket(1, 0, 1));
        x.set(1, 0, 0, 0, 0);
        Due.state("down", () -> x.socket(1, 0, 2));
        x.set(1, 0, 1, 0, 0);
        for (int i = 4; i < 32; i++) {
            int want = i;
            Due.is("SOCKET", want, () -> x.socket(want % 2, 0, 0));
        }
        Due.state("32 in all", () -> x.socket(0, 0, 9));
        Due.state("32, port 0", () -> x.socket(1, 2, 0));
        Due.argument("numbers before room", () -> x.socket(0, 0, 65536));
        x.close(31, 0);
        Due.state("CLOSED ones are among them", () -> x.socket(0, 0, 9));
        Due.sentence("port 0: from 50000 on the first that no SOCKET of KIND 0, or of 1 and 2, of this NODE has (one that is CLOSED has none, but one of KIND 1 that was neither connected nor closed).");
        InternetHouse y = Wire.pair(0);
        Due.is("SOCKET", 0, () -> y.socket(0, 0, 50001));
        Due.is("50000", 50000, () -> y.state(y.socket(0, 0, 0), 10));
        Due.is("50001 is used", 50002, () -> y.state(y.socket(0, 0, 0), 10));
        Due.is("STREAMS: 50000", 50000, () -> y.state(y.socket(0, 1, 0), 10));
        Due.is("one that was not connected has it", 50001, () -> y.state(y.socket(0, 2, 0), 10));
        Due.is("another NODE", 50000, () -> y.state(y.socket(1, 2, 0), 10));
        y.close(3, 0);
        Due.is("one that was closed has none", 50000, () -> y.state(y.socket(0, 2, 0), 10));
        y.close(1, 0);
        Due.is("DATAGRAMS that are CLOSED have none", 50000, () -> y.state(y.socket(0, 0, 0), 10));
        y.set(0, 0, 0, 0, 0);
        y.set(0, 0, 1, 0, 0);
        Due.is("those that FAILED have none", 50000, () -> y.state(y.socket(0, 2, 0), 10));
        Due.sentence("14 NEXT - FIRST, 15 TRIES, 16 DUPS. (0 for what a KIND has not.)");
        Due.missing("SOCKET 9", () -> y.state(Wire.rows(y, 0, 1) + 40, 0));
        Due.missing("SOCKET -1", () -> y.state(-1, 0));
        Due.missing("SOCKET before what", () -> y.state(-1, 17));
        Due.argument("what -1", () -> y.state(0, -1));
        Due.argument("what 17", () -> y.state(0, 17));
        for (int what = 3; what < 17; what++) {
            int k = what;
            if (k < 10 || k > 13) {
                Due.is("DATAGRAMS: " + k, 0, () -> y.state(0, k));
            }
        }
    }

    private static byte[] gram(byte[] data) {
        return Due.packet(17, 9, 0, 0, A2, A1, data);
    }

    private static byte[] quote(int type, int code, byte[] packet) {
        return Due.packet(1, 9, 0, 0, A2, A1, Due.control(type, code, 0, 0, packet));
    }

    private static void datagrams() {
        Due.sentence("WRONG if shorter than 8, of another length, or with a wrong SUM; else it comes to the SOCKET of KIND 0 with that port, if there is one (that is not closed): it keeps at most 4 (more are dropped); else it is UNREACHABLE 3.");
        InternetHouse x = Wire.pair(0);
        x.socket(0, 0, 5);
        byte[] d = Due.datagram(9, 5, new byte[1]);
        Due.inject(x, 0, gram(NONE));
        Due.inject(x, 0, gram(Due.summed(Due.bytes(0, 9, 0, 5, 0, 7, 0), 4)));
        Due.is("0 and 7 bytes", 2, () -> x.count(0, 4));
        byte[] shorter = Due.summed(Due.bytes(0, 9, 0, 5, 0, 8, 0, 0, 0), 6);
        byte[] longer = Due.summed(Due.bytes(0, 9, 0, 5, 0, 10, 0, 0, 0), 6);
        Due.inject(x, 0, gram(shorter));
        Due.inject(x, 0, gram(longer));
        Due.is("a length of 1 less, 1 more", 4, () -> x.count(0, 4));
        byte[] bad = d.clone();
        bad[8] ^= 1;
        Due.inject(x, 0, gram(bad));
        Due.is("SUM", 5, () -> x.count(0, 4));
        Due.is("none came", 0, () -> x.state(0, 2));
        for (int i = 0; i < 5; i++) {
            Due.inject(x, 0, gram(Due.datagram(9, 5, new byte[i])));
            int want = Math.min(4, i + 1);
            Due.is("at most 4; 8 bytes are enough", want, () -> x.state(0, 2));
        }
        Due.is("more are not UNREACHABLE", 6, () -> x.look(0, 15, 0, 5));
        Due.is("the first", 6, () -> x.read(0, 1));
        Due.inject(x, 0, gram(d));
        Due.is("there is room again", 4, () -> x.state(0, 2));
        Due.inject(x, 0, gram(Due.datagram(9, 6, NONE)));
        Due.is("no SOCKET", 5, () -> x.look(0, 15, 0, 5));
        x.socket(0, 2, 6);
        Due.inject(x, 0, gram(Due.datagram(9, 6, NONE)));
        Due.is("none of KIND 0", 4, () -> x.look(0, 15, 0, 5));
        x.close(0, 0);
        Due.is("what waits to be read is gone", 0, () -> x.state(0, 2));
        Due.inject(x, 0, gram(d));
        Due.is("a closed one", 3, () -> x.look(0, 15, 0, 5));
        Due.sentence("A CONTROL that tells of one (by its port from) gives that SOCKET 1 more than its CODE (OVER: 65 more) as FAILURE, if CODE is not 4.");
        InternetHouse y = Wire.pair(0);
        y.socket(0, 0, 9);
        byte[] mine = Due.packet(17, 9, 0, 0, A1, A2, Due.datagram(9, 5, NONE));
        int[][] cases = {{3, 0, 1}, {3, 3, 4}, {3, 4, 4}, {3, 13, 14}, {3, 255, 256}, {11, 0, 65}, {11, 1, 66}, {11, 255, 320}};
        for (int[] c : cases) {
            Due.inject(y, 0, quote(c[0], c[1], mine));
            Due.is("TYPE " + c[0] + ", CODE " + c[1], c[2], () -> y.state(0, 1));
        }
        Due.sentence("a DATAGRAM, STREAM (22 bytes or more): see there.");
        Due.inject(y, 0, quote(3, 0, Wire.cut(mine, 21)));
        Due.is("21 bytes are quoted", 320, () -> y.state(0, 1));
        Due.inject(y, 0, quote(3, 0, Due.packet(17, 9, 0, 0, A1, A2, Due.datagram(8, 9, NONE))));
        Due.is("another port", 320, () -> y.state(0, 1));
        Due.inject(y, 0, quote(3, 0, Wire.cut(mine, 22)));
        Due.is("22 bytes are quoted", 1, () -> y.state(0, 1));
        Due.sentence("KIND 0: the TAPE, empty then (100 bytes at most), is sent as a DATAGRAM to where it was connected.");
        Due.feed(y, new byte[101]);
        Due.missing("SOCKET 1", () -> y.write(1));
        Due.missing("SOCKET -1", () -> y.write(-1));
        Due.sentence("IllegalArgumentException: more than 100 for a DATAGRAM. IllegalStateException: not such, not connected, closed.");
        Due.argument("101, before: not connected", () -> y.write(0));
        Due.is("the TAPE stays", 101, () -> Wire.tape(y));
        y.end(100);
        Due.state("not connected", () -> y.write(0));
        Due.is("the TAPE stays", 100, () -> Wire.tape(y));
        Due.sentence("IllegalArgumentException: port is not 1 to 65535, or (KIND 1) the ADDRESS is ALL or a GROUP.");
        Due.missing("SOCKET 1", () -> y.connect(1, A2, 5));
        Due.missing("SOCKET before port", () -> y.connect(-1, A2, 0));
        Due.argument("port 0", () -> y.connect(0, A2, 0));
        Due.argument("port 65536", () -> y.connect(0, A2, 65536));
        Due.is("port 1", 1, () -> y.connect(0, A2, 1));
        Due.is("port 65535, to ALL", 1, () -> y.connect(0, -1, 65535));
        Due.is("to a GROUP", 1, () -> y.connect(0, Wire.GROUP, 5));
        Due.is("100", 100, () -> y.write(0));
        Due.is("none", 0, () -> y.write(0));
        Due.sentence("IllegalStateException: KIND 2, KIND 0 that is CLOSED, KIND 1 that was connected or closed, or its NODE is down.");
        y.socket(0, 1, 20);
        y.socket(0, 2, 21);
        y.socket(0, 1, 22);
        Due.argument("KIND 1 to ALL", () -> y.connect(1, -1, 5));
        Due.argument("KIND 1 to a GROUP", () -> y.connect(1, Wire.GROUP, 5));
        Due.argument("port before the KIND", () -> y.connect(2, A2, 0));
        Due.state("KIND 2", () -> y.connect(2, A2, 5));
        Due.is("KIND 1", 1, () -> y.connect(1, A2, 5));
        Due.state("KIND 1 that was connected", () -> y.connect(1, A2, 5));
        y.close(1, 1);
        Due.state("KIND 1 that was connected, CLOSED", () -> y.connect(1, A2, 5));
        y.close(3, 0);
        Due.state("KIND 1 that was closed", () -> y.connect(3, A2, 5));
        y.socket(0, 1, 23);
        y.close(0, 0);
        Due.state("KIND 0 that is CLOSED", () -> y.connect(0, A2, 5));
        Due.state("closed", () -> y.write(0));
        y.set(0, 0, 0, 0, 0);
        Due.state("down", () -> y.connect(4, A2, 5));
        y.set(0, 0, 1, 0, 0);
        Due.is("UP", 1, () -> y.connect(4, A2, 5));
    }

    private static void listening() {
        Due.sentence("A SEGMENT that is TAKEN (WRONG: shorter than 18, a wrong SUM) is for the SOCKET of KIND 1 or 2 with its port to");
        InternetHouse x = lone(0);
        x.run(2);
        Due.inject(x, 4, Due.packet(6, 9, 0, 64, A1, A2, Due.summed(new byte[17], 10)));
        Due.inject(x, 4, Due.packet(6, 9, 0, 64, A1, A2, new byte[18]));
        Due.is("17 bytes, SUM", 2, () -> x.count(1, 4));
        Due.sentence("unless RST is set, a RST goes back (WINDOW 0, FROM its TO, if that is an ADDRESS of the NODE): if it has ACK set: NUMBER its ACK; else NUMBER 0, with ACK set, the ACK its NUMBER + LENGTH.");
        int[][] cases = {{5, 9, ACK, 0, RST, 9, 0}, {5, 9, ACK | SYN, 0, RST, 9, 0}, {5, 9, 0, 0, RST | ACK, 0, 5}, {5, 9, SYN, 0, RST | ACK, 0, 6},
            {5, 9, FIN, 0, RST | ACK, 0, 6}, {-1, 9, SYN | FIN, 3, RST | ACK, 0, 4}, {-3, 9, 0, 2, RST | ACK, 0, -1}, {-2, 9, SYN, 1, RST | ACK, 0, 0}};
        for (int[] c : cases) {
            in(x, c[0], c[1], c[2], 7, new byte[c[3]]);
            x.run(1);
            byte[] d = Wire.data(x, 4, 0);
            String what = "NUMBER " + c[0] + ", FLAGS " + c[2] + ", " + c[3] + " bytes";
            Due.said(what, d[12] + " " + Wire.u32(d, 4) + " " + Wire.u32(d, 8) + " " + Wire.u16(d, 14), c[4] + " " + c[5] + " " + c[6] + " 0");
        }
        int sent = x.count(1, 0);
        in(x, 5, 9, RST, 7, NONE);
        in(x, 5, 9, RST | ACK | SYN, 7, NONE);
        x.run(2);
        Due.is("RST is set", sent, () -> x.count(1, 0));
        Due.sentence("LISTEN: RST: nothing. ACK: RST as for none. SYN: if there are less than 32 SOCKETS, and less than 3 that came of it, not accepted and not CLOSED:");
        InternetHouse y = lone(0);
        y.socket(1, 2, 80);
        y.run(2);
        in(y, 5, 9, RST | SYN, 7, NONE);
        in(y, 5, 9, 0, 7, NONE);
        in(y, 5, 9, FIN, 7, NONE);
        y.run(2);
        Due.is("RST, nothing set, FIN: nothing", 1, () -> y.count(1, 0));
        in(y, 5, 9, ACK | SYN, 7, NONE);
        y.run(2);
        Due.is("ACK", 2, () -> y.count(1, 0));
        Due.missing("no SOCKET", () -> y.state(1, 0));
        for (int i = 0; i < 4; i++) {
            Due.inject(y, 4, Wire.segment(10 + i, 100, 0, SYN, 300, NONE));
            int want = 3;
            int s = Math.min(3, i + 1);
            Due.is("SYN CAME", want, () -> y.state(s, 0));
        }
        Due.missing("no fourth", () -> y.state(4, 0));
        y.close(2, 1);
        Due.inject(y, 4, Wire.segment(13, 100, 0, SYN, 300, NONE));
        Due.is("one is CLOSED", 3, () -> y.state(4, 0));
        Due.inject(y, 4, Wire.segment(14, 100, 0, SYN, 300, NONE));
        Due.missing("three again", () -> y.state(5, 0));
        int a = y.state(1, 14);
        Due.is("NEXT - FIRST", 1, () -> a);
        Due.inject(y, 4, Wire.segment(10, 101, first(0) + 1, ACK, 300, NONE));
        Due.is("OPEN", 4, () -> y.state(1, 0));
        Due.inject(y, 4, Wire.segment(14, 100, 0, SYN, 300, NONE));
        Due.missing("OPEN, but not accepted", () -> y.state(5, 0));
        Due.sentence("Of a SOCKET that LISTENS: the first one not accepted that is OPEN or CLOSE WAIT is accepted: its number; -1: none. IllegalStateException: it does not LISTEN.");
        Due.missing("SOCKET 9", () -> y.accept(9));
        Due.missing("SOCKET -1", () -> y.accept(-1));
        Due.state("SOCKET 1", () -> y.accept(1));
        Due.is("SOCKET 1", 1, () -> y.accept(0));
        Due.is("none: SYN CAME is not meant", -1, () -> y.accept(0));
        Due.inject(y, 4, Wire.segment(14, 100, 0, SYN, 300, NONE));
        Due.is("accepted ones are not among the three", 3, () -> y.state(5, 0));
        for (int i = 6; i < 32; i++) {
            y.socket(1, 0, 0);
        }
        y.close(5, 1);
        Due.inject(y, 4, Wire.segment(15, 100, 0, SYN, 300, NONE));
        Due.missing("32 SOCKETS", () -> y.state(32, 0));
        y.close(0, 0);
        Due.state("CLOSED", () -> y.accept(0));
        InternetHouse z = open();
        in(z, RCV, UNA, ACK | FIN, 400, NONE);
        Due.is("CLOSE WAIT", 7, () -> z.state(C, 0));
        Due.is("is accepted, too", C, () -> z.accept(0));
        Due.sentence("SYN CAME: if ACK is BEHIND UNA and not BEHIND MOST: OPEN (UNA is FIRST + 1, TRIES 0, the TIMER off, FAR WINDOW its WINDOW), else a RST with NUMBER ACK and WINDOW 0; nothing more.");
        for (int seed : new int[] {0, seedFor(-1, -1), seedFor(Integer.MAX_VALUE - 3, Integer.MAX_VALUE)}) {
            for (int d = -1; d < 4; d++) {
                InternetHouse u = lone(seed);
                u.socket(1, 2, 80);
                in(u, 100, 0, SYN, 400, NONE);
                u.run(3);
                int ack = first(seed) + d;
                in(u, 101, ack, ACK, 333, NONE);
                u.run(1);
                String what = "FIRST " + first(seed) + ", ACK " + d + " more";
                Due.is(what, d == 1 ? 4 : 3, () -> u.state(C, 0));
                if (d == 1) {
                    Due.is("FAR WINDOW", 333, () -> u.state(C, 8));
                } else {
                    byte[] r = Wire.data(u, 4, 0);
                    Due.said(what + ": RST", r[12] + " " + Wire.u32(r, 4) + " " + Wire.u16(r, 14), RST + " " + ack + " 0");
                }
            }
        }
    }

    private static void calling() {
        Due.sentence("SYN SENT: with ACK set, and an ACK that is not FIRST + 1: as for none. RST: it FAILS 2 if ACK is set; nothing more.");
        int f = first(0);
        int[][] cases = {{ACK, 0, 2, 0}, {ACK, 2, 2, 0}, {ACK | RST, 0, 2, 0}, {ACK | RST, 1, 0, 2}, {RST, 0, 2, 0}, {RST, 1, 2, 0}, {ACK, 1, 2, 0},
            {ACK | SYN, 0, 2, 0}, {ACK | SYN, 2, 2, 0}, {ACK | SYN, 1, 4, 0}, {SYN, 9, 3, 0}, {FIN, 1, 2, 0}, {0, 1, 2, 0}, {SYN | RST, 1, 2, 0}};
        for (int[] c : cases) {
            InternetHouse x = lone(0);
            x.socket(1, 1, 80);
            x.connect(0, A1, 7);
            x.run(3);
            int sent = x.count(1, 0);
            in(x, 100, f + c[1], c[0], 400, NONE);
            x.run(1);
            String what = "FLAGS " + c[0] + ", ACK FIRST + " + c[1];
            Due.is(what, c[2], () -> x.state(0, 0));
            Due.is(what + ": FAILURE", c[3], () -> x.state(0, 1));
            boolean replies = c[2] != 2 && c[2] != 0 || c[2] == 2 && (c[0] & RST) == 0 && (c[0] & ACK) != 0 && c[1] != 1;
            Due.is(what + ": what goes back", sent + (replies ? 1 : 0), () -> x.count(1, 0));
        }
        Due.sentence("A CONTROL 3 (CODE not 4) that tells of a SEGMENT of a SYN SENT one (its port, far ADDRESS, far port): it FAILS 1.");
        byte[] mine = Due.packet(6, 9, 0, 64, A1, A2, Due.join(Due.bytes(0, 80, 0, 7), new byte[14]));
        byte[] other = Due.packet(6, 9, 0, 64, A1, A2, Due.join(Due.bytes(0, 80, 0, 8), new byte[14]));
        byte[] from = Due.packet(6, 9, 0, 64, A1, A2, Due.join(Due.bytes(0, 81, 0, 7), new byte[14]));
        byte[] far = Due.packet(6, 9, 0, 64, A1, A2 + 1, Due.join(Due.bytes(0, 80, 0, 7), new byte[14]));
        InternetHouse x = Wire.pair(0);
        x.socket(0, 1, 80);
        x.connect(0, A2, 7);
        byte[][] none = {quote(3, 4, mine), quote(11, 1, mine), quote(3, 1, Wire.cut(mine, 21)), quote(3, 1, other), quote(3, 1, from), quote(3, 1, far)};
        for (byte[] p : none) {
            Due.inject(x, 0, p);
            Due.is("nothing", 2, () -> x.state(0, 0));
        }
        Due.inject(x, 0, quote(3, 0, Wire.cut(mine, 22)));
        Due.is("CLOSED", 0, () -> x.state(0, 0));
        Due.is("FAILURE 1", 1, () -> x.state(0, 1));
        InternetHouse y = open();
        Due.inject(y, 4, Due.packet(1, 9, 0, 0, A1, A2, Due.control(3, 1, 0, 0, Due.packet(6, 9, 0, 64, A2, A1, Due.join(Due.bytes(0, 80, 0, 7), new byte[14])))));
        Due.is("one that is OPEN does not FAIL", 4, () -> y.state(C, 0));
        Due.sentence("STREAMS (PROTOCOL 6), a SEGMENT as DATA of a PACKET that must stay WHOLE");
        InternetHouse z = Wire.pair(0);
        z.socket(0, 1, 80);
        Wire.known(z, 0, A1, A2, 5);
        z.connect(0, A2, 7);
        z.run(3);
        byte[] syn = Due.join(Due.bytes(0, 80, 0, 7), Due.word(f), Due.word(0), Due.bytes(SYN, 0, 1, 144, 0, 0));
        byte[] want = Due.frame(5, 1, 3, Due.packet(6, 32, 0, 64, A1, A2, Due.summed(syn, 16)));
        Due.is("SYN", 1, () -> java.util.Arrays.equals(want, Wire.sent(z, 0, 0)) ? 1 : 0);
    }

    /** What a SEGMENT does to an OPEN STREAM with so many bytes to read: bytes to read and STATE, ACKS sent. */
    private static String takes(int unread, int o, int flags, int bytes) {
        InternetHouse x = open();
        for (int i = 0; i < unread; i += 100) {
            in(x, RCV + i, UNA, ACK, 400, new byte[Math.min(100, unread - i)]);
        }
        x.run(12);
        Due.is("to read", unread, () -> x.state(C, 2));
        int sent = x.count(1, 0);
        in(x, RCV + unread + o, UNA, flags, 400, new byte[bytes]);
        x.run(2);
        return x.state(C, 2) + " " + x.state(C, 0) + " " + (x.count(1, 0) - sent);
    }

    private static void wanted() {
        Due.sentence("It is wanted if l is 0: o is 0, or from 0 to below w; else w is above 0, o is below w, and o + l above 0. If not: an ACK is sent (unless RST); nothing more.");
        Due.said("o 0, l 0", takes(0, 0, ACK, 0), "0 4 0");
        Due.said("o 399, l 0", takes(0, 399, ACK, 0), "0 4 0");
        Due.said("o 400, l 0", takes(0, 400, ACK, 0), "0 4 1");
        Due.said("o -1, l 0", takes(0, -1, ACK, 0), "0 4 1");
        Due.said("w 0, o 0, l 0", takes(400, 0, ACK, 0), "400 4 0");
        Due.said("w 0, o 1, l 0", takes(400, 1, ACK, 0), "400 4 1");
        Due.said("w 0, o 0, l 1", takes(400, 0, ACK, 1), "400 4 1");
        Due.said("w 0, o 0, l 1 by FIN", takes(400, 0, ACK | FIN, 0), "400 4 1");
        Due.said("w 1, o 0, l 1", takes(399, 0, ACK, 1), "400 4 1");
        Due.said("w 1, o 0, l 2", takes(399, 0, ACK, 2), "400 4 1");
        Due.said("o -1, l 1", takes(10, -1, ACK, 1), "10 4 1");
        Due.said("o -1, l 2", takes(10, -1, ACK, 2), "11 4 1");
        Due.said("o -1, l 1 by FIN", takes(10, -1, ACK | FIN, 0), "10 4 1");
        Due.said("o -1, l 2 by a byte and FIN", takes(10, -1, ACK | FIN, 1), "10 7 1");
        Due.said("o 399, l 1", takes(0, 399, ACK, 1), "0 4 1");
        Due.said("the greatest o", takes(0, Integer.MAX_VALUE, ACK, 0), "0 4 1");
        Due.said("the least o", takes(0, Integer.MIN_VALUE, ACK, 3), "0 4 1");
        InternetHouse x = open();
        write(x, C, 48);
        x.run(2);
        in(x, RCV + 400, UNA + 48, ACK, 400, NONE);
        Due.is("not wanted: its ACK is nothing", 48, () -> x.state(C, 9));
        in(x, RCV + 399, UNA + 48, ACK, 400, NONE);
        Due.is("wanted: its ACK counts", 0, () -> x.state(C, 9));
        Due.sentence("If l is above 0 an ACK is sent.");
        Due.said("1 byte", takes(0, 0, ACK, 1), "1 4 1");
        Due.said("a FIN", takes(0, 0, ACK | FIN, 0), "0 7 1");
        Due.said("neither", takes(0, 0, ACK, 0), "0 4 0");
        Due.sentence("RST: o is 0: it FAILS 3; else an ACK is sent. SYN: an ACK is sent; nothing more. Without ACK: nothing more.");
        Due.said("RST, o 0", takes(5, 0, RST, 0), "5 0 0");
        Due.said("RST, o 1", takes(5, 1, RST, 0), "5 4 1");
        Due.said("RST, o -1: not wanted", takes(5, -1, RST, 0), "5 4 0");
        Due.said("RST, o 395: not wanted", takes(5, 395, RST, 0), "5 4 0");
        Due.said("RST with 2 bytes, o -1", takes(5, -1, RST, 2), "5 4 1");
        Due.said("RST and SYN, o 0", takes(5, 0, RST | SYN, 0), "5 0 0");
        Due.said("SYN", takes(5, 0, SYN | ACK, 3), "5 4 1");
        Due.said("SYN, not wanted", takes(5, -1, SYN, 0), "5 4 1");
        Due.said("without ACK", takes(5, 0, 0, 3), "5 4 0");
        Due.said("FIN without ACK", takes(5, 0, FIN, 0), "5 4 0");
        InternetHouse y = open();
        in(y, RCV, UNA, RST, 400, NONE);
        Due.is("FAILURE 3", 3, () -> y.state(C, 1));
        Due.sentence("Bytes (OPEN, FIN WAIT 1, 2): those from RCV on within w are kept, each the first that came (none from the place of a FIN on that is known); the first FIN, if its place is from RCV to RCV + w, too;");
        Due.said("50 of 60 fit", takes(350, 0, ACK, 60), "400 4 1");
        Due.said("50 bytes, the FIN at RCV + w", takes(350, 0, ACK | FIN, 50), "400 7 1");
        Due.said("51 bytes, the FIN beyond", takes(350, 0, ACK | FIN, 51), "400 4 1");
        Due.said("FIN at RCV", takes(350, 0, ACK | FIN, 0), "350 7 1");
        InternetHouse z = open();
        in(z, RCV + 3, UNA, ACK | FIN, 400, Due.bytes(4));
        in(z, RCV + 1, UNA, ACK | FIN, 400, Due.bytes(2));
        in(z, RCV + 2, UNA, ACK, 400, Due.bytes(3, 9, 9));
        Due.is("not in order yet", 0, () -> z.state(C, 2));
        in(z, RCV, UNA, ACK, 400, Due.bytes(1, 9, 9, 9, 9));
        Due.is("the first FIN counts", 4, () -> z.state(C, 2));
        Due.is("CLOSE WAIT", 7, () -> z.state(C, 0));
        z.read(C, 200);
        Due.outIs("each the first that came", z, "\1\2\3\4");
        InternetHouse u = open();
        in(u, RCV + 1, UNA, ACK, 400, Due.bytes(2, 3, 4));
        in(u, RCV, UNA, ACK | FIN, 400, Due.bytes(1, 2));
        Due.is("a FIN before bytes that came", 2, () -> u.state(C, 2));
        Due.is("CLOSE WAIT", 7, () -> u.state(C, 0));
        in(u, RCV + 3, UNA, ACK, 400, Due.bytes(7));
        Due.is("CLOSE WAIT: no bytes", 2, () -> u.state(C, 2));
    }

    private static void thanks() {
        Due.sentence("ACK BEHIND MOST: an ACK is sent; nothing more.");
        InternetHouse x = open();
        write(x, C, 96);
        x.run(3);
        Due.is("two of PART", 96, () -> x.state(C, 9));
        int sent = x.count(1, 0);
        in(x, RCV, UNA + 97, ACK, 77, NONE);
        x.run(1);
        Due.is("1 more than MOST", 96, () -> x.state(C, 9));
        Due.is("FAR WINDOW stays", 400, () -> x.state(C, 8));
        Due.is("an ACK is sent", sent + 1, () -> x.count(1, 0));
        Due.said("the ACK", sent(x, 0), ACK + " 96 0 0");
        in(x, RCV, UNA - 1, ACK, 77, NONE);
        Due.is("less than UNA: nothing is thanked for", 96, () -> x.state(C, 9));
        Due.sentence("FAR WINDOW is its WINDOW, if UNA is not BEHIND ACK.");
        Due.is("UNA is BEHIND ACK", 400, () -> x.state(C, 8));
        in(x, RCV, UNA, ACK, 78, NONE);
        Due.is("ACK is UNA", 78, () -> x.state(C, 8));
        in(x, RCV, UNA + 1, ACK, 79, NONE);
        Due.is("ACK is 1 more", 79, () -> x.state(C, 8));
        Due.is("FLIGHT", 95, () -> x.state(C, 9));
        in(x, RCV, UNA + 96, ACK, 0, NONE);
        Due.is("ACK is MOST", 0, () -> x.state(C, 9));
        Due.is("the ROW is empty", 0, () -> x.state(C, 3));
        Due.sentence("ACK is UNA, without bytes, SYN, FIN, with the same WINDOW as before, and FLIGHT above 0: DUPS is 1 more; with 3: EDGE is half of FLIGHT (96 at least), RECOVER is MOST, PART bytes from UNA on likewise are sent again, no round trip is measured, CARE is EDGE + 144; with more: CARE is 48 more (400 at most).");
        InternetHouse y = open();
        in(y, RCV, UNA, ACK, 400, NONE);
        Due.is("FLIGHT 0", 0, () -> y.state(C, 16));
        write(y, C, 400);
        y.run(3);
        int y0 = y.count(1, 0);
        in(y, RCV, UNA, ACK, 401, NONE);
        Due.is("another WINDOW", 0, () -> y.state(C, 16));
        in(y, RCV, UNA, ACK, 401, new byte[1]);
        Due.is("a byte", 0, () -> y.state(C, 16));
        in(y, RCV + 1, UNA - 1, ACK, 401, NONE);
        Due.is("ACK is not UNA", 0, () -> y.state(C, 16));
        for (int i = 1; i < 3; i++) {
            in(y, RCV + 1, UNA, ACK, 401, NONE);
            int want = i;
            Due.is("DUPS", want, () -> y.state(C, 16));
            Due.is("CARE stays", 96, () -> y.state(C, 4));
        }
        y.run(3);
        Due.is("an ACK for the byte", y0 + 1, () -> y.count(1, 0));
        in(y, RCV + 1, UNA, ACK, 401, NONE);
        Due.is("EDGE: half of 96, 96 at least", 96, () -> y.state(C, 5));
        Due.is("CARE: EDGE + 144", 240, () -> y.state(C, 4));
        y.run(1);
        Due.said("PART bytes from UNA on", sent(y, 0), ACK + " 0 1 48");
        for (int i = 0; i < 5; i++) {
            in(y, RCV + 1, UNA, ACK, 401, NONE);
            int want = Math.min(400, 288 + 48 * i);
            Due.is("48 more, 400 at most", want, () -> y.state(C, 4));
        }
        Due.is("FLIGHT: 8 PARTS, the other 16 bytes are none", 384, () -> y.state(C, 9));
        Due.sentence("if DUPS is 3 or more, and RECOVER is BEHIND ACK: PART bytes from ACK on (as far as they were ever sent; if there are none, the FIN) are sent again, CARE is less by what was thanked for, and 48 more (48 at least), DUPS stays; if DUPS is 3 or more otherwise: CARE is EDGE, DUPS 0;");
        in(y, RCV + 1, UNA + 48, ACK, 401, NONE);
        Due.is("400 less 48, and 48 more", 400, () -> y.state(C, 4));
        Due.is("DUPS stay", 8, () -> y.state(C, 16));
        in(y, RCV + 1, UNA + 95, ACK, 401, NONE);
        Due.is("RECOVER was 96, 95 is not: 400 less 47, and 48 more, 400 at most", 400, () -> y.state(C, 4));
        Due.is("DUPS stay", 8, () -> y.state(C, 16));
        in(y, RCV + 1, UNA + 96, ACK, 401, NONE);
        Due.is("RECOVER is not BEHIND 96: CARE is EDGE", 96, () -> y.state(C, 4));
        Due.is("DUPS", 0, () -> y.state(C, 16));
        recovery();
        Due.sentence("if DUPS is below 3: it is more by the lesser one of what was thanked for and 48, if it is below EDGE, else by 2304 / CARE (1 at least); DUPS 0; 400 at most.");
        InternetHouse z = open();
        write(z, C, 400);
        int una = UNA;
        int care = 96;
        int[] steps = {1, 47, 48, 96, 100, 144};
        for (int i = 0; i < 40; i++) {
            int flight = z.state(C, 9);
            if (flight == 0) {
                write(z, C, 400);
                continue;
            }
            int step = Math.min(flight, steps[i % steps.length]);
            una += step;
            care = Math.min(400, care + (care < 240 ? Math.min(48, step) : Math.max(1, 2304 / care)));
            in(z, RCV, una, ACK, 400, NONE);
            Due.feed(z, new byte[step]);
            z.write(C);
            int want = care;
            Due.is("CARE", want, () -> z.state(C, 4));
        }
        Due.is("above EDGE", 1, () -> z.state(C, 4) > 240 ? 1 : 0);
    }

    /** RECOVER with a FLIGHT of 192: ACKS below it, it, and the FIN alone to be sent again. */
    private static void recovery() {
        InternetHouse x = open();
        write(x, C, 400);
        x.run(6);
        in(x, RCV, UNA + 48, ACK, 400, NONE);
        in(x, RCV, UNA + 96, ACK, 400, NONE);
        Due.is("CARE", 192, () -> x.state(C, 4));
        Due.is("FLIGHT", 192, () -> x.state(C, 9));
        for (int i = 0; i < 3; i++) {
            in(x, RCV, UNA + 96, ACK, 400, NONE);
        }
        Due.is("EDGE: 96 is half of 192", 96, () -> x.state(C, 5));
        Due.is("CARE", 240, () -> x.state(C, 4));
        x.run(9);
        in(x, RCV, UNA + 97, ACK, 400, NONE);
        Due.is("1 thanked for: 240 - 1 + 48", 287, () -> x.state(C, 4));
        Due.is("DUPS stay", 3, () -> x.state(C, 16));
        x.run(1);
        Due.said("PART bytes from ACK on", sent(x, 0), ACK + " 97 0 48");
        in(x, RCV, UNA + 287, ACK, 400, NONE);
        Due.is("190 more: 287 - 190 + 48", 145, () -> x.state(C, 4));
        in(x, RCV, UNA + 288, ACK, 400, NONE);
        Due.is("RECOVER: CARE is EDGE", 96, () -> x.state(C, 4));
        InternetHouse y = open();
        write(y, C, 96);
        y.close(C, 0);
        Due.is("FLIGHT with the FIN", 97, () -> y.state(C, 9));
        for (int i = 0; i < 3; i++) {
            in(y, RCV, UNA, ACK, 400, NONE);
        }
        y.run(9);
        in(y, RCV, UNA + 96, ACK, 400, NONE);
        Due.is("48 at least", 240 - 96 + 48, () -> y.state(C, 4));
        y.run(1);
        Due.said("no bytes: the FIN", sent(y, 0), (ACK | FIN) + " 96 0 0");
        InternetHouse z = open();
        write(z, C, 400);
        for (int i = 0; i < 3; i++) {
            in(z, RCV, UNA, ACK, 400, NONE);
        }
        z.run(20);
        Due.is("the TIMER: CARE", 48, () -> z.state(C, 4));
        Due.is("DUPS", 0, () -> z.state(C, 16));
    }

    private static void pushing() {
        Due.sentence("n, the least of the bytes of the ROW from NEXT on, PART, and the lesser one of FAR WINDOW and CARE less FLIGHT; if n is above 0, and it is PART, or FLIGHT is 0, or there is no more in the ROW and it is closed: these n are sent, NEXT is n more.");
        int[][] cases = {{1, 400, 1}, {48, 400, 48}, {49, 400, 48}, {95, 400, 48}, {96, 400, 96}, {97, 400, 96}, {400, 400, 96}, {400, 47, 47}, {400, 48, 48},
            {400, 95, 48}, {400, 96, 96}, {400, 1, 1}, {400, 0, 0}, {0, 400, 0}};
        for (int[] c : cases) {
            InternetHouse x = open(0, 100, c[1]);
            write(x, C, c[0]);
            Due.is(c[0] + " bytes, WINDOW " + c[1], c[2], () -> x.state(C, 9));
            Due.is("in the ROW", c[0], () -> x.state(C, 3));
        }
        InternetHouse closed = open(0, 100, 400);
        write(closed, C, 49);
        closed.close(C, 0);
        Due.is("no more in the ROW, and closed: 48, 1, FIN", 50, () -> closed.state(C, 9));
        InternetHouse narrow = open(0, 100, 60);
        write(narrow, C, 100);
        narrow.close(C, 0);
        Due.is("12 of 52 are not all, and no PART", 48, () -> narrow.state(C, 9));
        Due.is("FIN WAIT 1", 5, () -> narrow.state(C, 0));
        Due.sentence("If none are left in the ROW from NEXT on, and it is closed and its FIN not sent (NEXT is not beyond it): the FIN is sent, NEXT 1 more.");
        InternetHouse none = open(0, 100, 0);
        none.close(C, 0);
        Due.is("WINDOW 0: the FIN all the same", 1, () -> none.state(C, 9));
        none.close(C, 0);
        Due.is("once", 1, () -> none.state(C, 9));
        Due.sentence("PART: 48, or SIZE of a PATH to it less 36, if that is less (at least 8).");
        int[][] sizes = {{60, 24}, {0, 24}, {83, 47}, {84, 48}, {85, 48}, {148, 48}};
        for (int[] s : sizes) {
            InternetHouse x = open();
            byte[] q = Due.packet(6, 9, 0, 64, A2, A1, new byte[18]);
            Due.inject(x, 4, Due.packet(1, 9, 0, 0, A1, A2, Due.control(3, 4, s[0], 0, q)));
            write(x, C, 2 * s[1] - 1);
            Due.is("SIZE " + s[0], s[1], () -> x.state(C, 9));
            x.run(3);
            Due.is("LENGTH", 36 + s[1], () -> x.seen(4, 0, 5));
        }
        Due.sentence("a ROW of at most 400 bytes written and not thanked for;");
        InternetHouse x = open();
        Due.feed(x, new byte[401]);
        Due.is("400 of 401", 400, () -> x.write(C));
        Due.is("1 stays on the TAPE", 1, () -> Wire.tape(x));
        Due.is("no room", 0, () -> x.write(C));
        Due.is("it stays", 1, () -> Wire.tape(x));
        in(x, RCV, UNA + 1, ACK, 400, NONE);
        Due.feed(x, new byte[2]);
        Due.is("room for one", 1, () -> x.write(C));
        Due.is("in the ROW", 400, () -> x.state(C, 3));
    }

    private static void timers() {
        Due.sentence("THE TIMER (at CLOCK, SOCKETS by their numbers, TIME it or later): TRIES is 1 more; with 7 it FAILS 4. WAIT is doubled (64 at most); no round trip is measured.");
        InternetHouse x = lone(0);
        x.socket(1, 1, 5);
        x.connect(0, A1, 7);
        int[] at = {12, 36, 84, 148, 212, 276, 340};
        int[] wait = {24, 48, 64, 64, 64, 64};
        int now = 0;
        for (int i = 0; i < 6; i++) {
            Wire.known(x, 4, A2, A1, 1);
            Wire.runs(x, at[i] - now - 1);
            int k = i;
            Due.is("not before " + at[k], k, () -> x.state(0, 15));
            Wire.known(x, 4, A2, A1, 1);
            x.run(1);
            Due.is("at " + at[k], k + 1, () -> x.state(0, 15));
            Due.is("WAIT", wait[k], () -> x.state(0, 6));
            now = at[i];
        }
        Due.is("with 6", 2, () -> x.state(0, 0));
        Wire.runs(x, 63);
        Due.is("still", 2, () -> x.state(0, 0));
        x.run(1);
        Due.is("with 7: CLOSED", 0, () -> x.state(0, 0));
        Due.is("FAILURE 4", 4, () -> x.state(0, 1));
        Due.sentence("Else, with a FLIGHT of 0: TRIES is 0, and 1 byte from NEXT on, if there is one, is sent (MOST is 1 more than NEXT, if it was NEXT; NEXT stays).");
        InternetHouse y = open(0, 100, 0);
        write(y, C, 5);
        int sent = y.count(1, 0);
        y.run(11);
        Due.is("WINDOW 0: nothing before 12", sent, () -> y.count(1, 0));
        y.run(1);
        Due.said("1 byte", sent(y, 0), ACK + " 0 0 1");
        Due.is("TRIES 0", 0, () -> y.state(C, 15));
        Due.is("NEXT stays", 0, () -> y.state(C, 9));
        Due.is("WAIT", 24, () -> y.state(C, 6));
        in(y, RCV, UNA + 2, ACK, 400, NONE);
        Due.is("MOST is 1 more: 2 is BEHIND it", 5, () -> y.state(C, 3));
        in(y, RCV, UNA + 1, ACK, 0, NONE);
        Due.is("1 is not", 4, () -> y.state(C, 3));
        Due.is("NEXT, too", 2, () -> y.state(C, 14));
        Due.sentence("Else EDGE is half of FLIGHT (96 at least), CARE is 48, DUPS 0, RECOVER is MOST, NEXT is UNA; it PUSHES.");
        InternetHouse z = open();
        write(z, C, 96);
        z.run(11);
        Due.is("not before 12", 96, () -> z.state(C, 4));
        z.run(1);
        Due.is("EDGE 96 at least", 96, () -> z.state(C, 5));
        Due.is("CARE", 48, () -> z.state(C, 4));
        Due.is("48 are sent", 48, () -> z.state(C, 9));
        InternetHouse wide = open();
        write(wide, C, 400);
        int una = UNA;
        for (int i = 0; i < 6; i++) {
            una += 48;
            in(wide, RCV, una, ACK, 400, NONE);
            Due.feed(wide, new byte[48]);
            wide.write(C);
        }
        int flight = wide.state(C, 9);
        for (int i = 0; i < 20 && wide.state(C, 15) == 0; i++) {
            wide.run(1);
        }
        Due.is("half of FLIGHT", Math.max(96, flight / 2), () -> wide.state(C, 5));
        Due.is("it was above 192", 1, () -> flight > 192 ? 1 : 0);
        Due.sentence("r is TIME less its beginning: the first one: S 8 r, V 2 r; else e is r - S / 8, S e more, V (size of e) - V / 4 more; (cut off); WAIT is S / 8 + the greater one of 1 and V, from 4 to 64.");
        InternetHouse u = open();
        int next = UNA;
        int[] trips = {0, 0, 1, 3, 2, 4, 7, 12, 22, 40, 60, 60, 63, 0, 1, 5, 30};
        int s = 0;
        int v = 0;
        int waits = 12;
        for (int i = 0; i < trips.length; i++) {
            int r = Math.min(trips[i], waits - 1);
            write(u, C, 1);
            Wire.runs(u, r);
            next++;
            in(u, RCV, next, ACK, 400, NONE);
            if (i == 0) {
                s = 8 * r;
                v = 2 * r;
            } else {
                int e = r - s / 8;
                s += e;
                v += Math.abs(e) - v / 4;
            }
            waits = Math.max(4, Math.min(64, s / 8 + Math.max(1, v)));
            int wantS = s;
            int wantWait = waits;
            Due.is("trip " + i + " of " + r + ": S", wantS, () -> u.state(C, 7));
            Due.is("trip " + i + " of " + r + ": WAIT", wantWait, () -> u.state(C, 6));
        }
        InternetHouse again = open();
        write(again, C, 1);
        again.run(12);
        in(again, RCV, UNA + 1, ACK, 400, NONE);
        Due.is("sent again: not measured", 0, () -> again.state(C, 7));
        Due.is("WAIT stays doubled", 24, () -> again.state(C, 6));
        Due.is("TRIES 0", 0, () -> again.state(C, 15));
        Due.sentence("TIME WAIT: 20 UNITS from when it began, then CLOSED (at CLOCK, with the TIMER).");
        Due.sentence("(TIME WAIT and FIN: its 20 UNITS begin anew.)");
        for (int anew = 0; anew < 2; anew++) {
            InternetHouse w = open();
            w.close(C, 0);
            in(w, RCV, UNA + 1, ACK | FIN, 400, NONE);
            Due.is("TIME WAIT", 10, () -> w.state(C, 0));
            w.run(19);
            Due.is("19 UNITS", 10, () -> w.state(C, 0));
            in(w, RCV, UNA + 1, anew == 1 ? ACK | FIN : ACK, 400, NONE);
            w.run(1);
            Due.is("20 UNITS", anew == 1 ? 10 : 0, () -> w.state(C, 0));
            if (anew == 1) {
                w.run(18);
                Due.is("19 from the FIN", 10, () -> w.state(C, 0));
                w.run(1);
                Due.is("20 from the FIN", 0, () -> w.state(C, 0));
            }
            Due.is("no FAILURE", 0, () -> w.state(C, 1));
        }
    }

    private static void reading() {
        Due.sentence("the first n bytes (1 to 200) at most that are in order, which are read then (if THE WINDOW was below 48 and is not any more, and it is OPEN, FIN WAIT 1 or 2, an ACK is sent): how many.");
        InternetHouse x = open();
        Due.missing("SOCKET 2", () -> x.read(2, 1));
        Due.missing("SOCKET before n", () -> x.read(-1, 0));
        Due.sentence("IllegalArgumentException: n. IllegalStateException: KIND 2.");
        Due.argument("0", () -> x.read(C, 0));
        Due.argument("201", () -> x.read(C, 201));
        Due.argument("n before the KIND", () -> x.read(0, 0));
        Due.state("KIND 2", () -> x.read(0, 1));
        for (int i = 0; i < 400; i += 100) {
            in(x, RCV + i, UNA, ACK, 400, new byte[100]);
        }
        x.run(9);
        int[][] steps = {{47, 0}, {1, 1}, {1, 0}, {200, 0}};
        for (int[] s : steps) {
            int sent = x.count(1, 0);
            Due.is("read", s[0], () -> x.read(C, s[0]));
            x.run(1);
            Due.is("an ACK", sent + s[1], () -> x.count(1, 0));
        }
        Due.is("151 of 200", 151, () -> x.read(C, 200));
        Due.is("OUT", 151, () -> x.octet(-1));
        Due.sentence("Without any, OUT stays: -2 the end (a FIN came); else -3 it is CLOSED; else -1.");
        Due.is("none", -1, () -> x.read(C, 1));
        Due.is("OUT stays", 151, () -> x.octet(-1));
        in(x, RCV + 401, UNA, ACK, 400, new byte[1]);
        Due.is("not in order", -1, () -> x.read(C, 1));
        in(x, RCV + 400, UNA, ACK, 400, new byte[1]);
        x.close(C, 1);
        Due.is("CLOSED, but in order", 2, () -> x.read(C, 200));
        Due.is("CLOSED", -3, () -> x.read(C, 1));
        InternetHouse y = open();
        in(y, RCV, UNA, ACK | FIN, 400, new byte[1]);
        Due.is("before the end", 1, () -> y.read(C, 1));
        Due.is("the end", -2, () -> y.read(C, 1));
        y.close(C, 1);
        Due.is("the end, CLOSED", -2, () -> y.read(C, 1));
        y.socket(1, 1, 5);
        Due.is("never connected", -3, () -> y.read(2, 1));
        y.socket(1, 0, 5);
        Due.is("DATAGRAMS: none", -1, () -> y.read(3, 1));
        y.close(3, 0);
        Due.is("DATAGRAMS: CLOSED", -3, () -> y.read(3, 1));
        for (int state = 0; state < 3; state++) {
            InternetHouse z = open();
            for (int i = 0; i < 400; i += 100) {
                in(z, RCV + i, UNA, ACK, 400, new byte[100]);
            }
            if (state > 0) {
                z.close(C, 0);
            }
            if (state > 1) {
                in(z, RCV + 400, UNA + 1, ACK, 400, NONE);
            }
            z.run(9);
            int want = state == 0 ? 4 : 4 + state;
            Due.is("STATE", want, () -> z.state(C, 0));
            int sent = z.count(1, 0);
            z.read(C, 48);
            z.run(1);
            Due.is("an ACK", sent + 1, () -> z.count(1, 0));
        }
        InternetHouse w = open();
        for (int i = 0; i < 300; i += 100) {
            in(w, RCV + i, UNA, ACK, 400, new byte[100]);
        }
        in(w, RCV + 300, UNA, ACK | FIN, 400, new byte[100]);
        w.run(9);
        Due.is("CLOSE WAIT", 7, () -> w.state(C, 0));
        int before = w.count(1, 0);
        w.read(C, 200);
        w.run(2);
        Due.is("no ACK", before, () -> w.count(1, 0));
        Due.sentence("A STREAM (SYN SENT to OPEN, CLOSE WAIT): as many of its first bytes as there is room for come to the ROW, and go off the TAPE; it PUSHES: how many.");
        InternetHouse u = Wire.pair(0);
        u.socket(0, 1, 5);
        u.socket(0, 2, 6);
        Due.feed(u, "abc");
        Due.state("not connected", () -> u.write(0));
        Due.state("KIND 2", () -> u.write(1));
        u.connect(0, A2, 80);
        Due.is("SYN SENT", 3, () -> u.write(0));
        Due.is("in the ROW", 3, () -> u.state(0, 3));
        Due.is("not sent yet", 1, () -> u.state(0, 9));
        Due.is("CLOSE WAIT", 0, () -> w.write(C));
        w.close(C, 0);
        Due.state("LAST ACK", () -> w.write(C));
        InternetHouse v = open();
        v.close(C, 0);
        Due.state("FIN WAIT 1", () -> v.write(C));
        in(v, RCV, UNA + 1, ACK, 400, NONE);
        Due.state("FIN WAIT 2", () -> v.write(C));
        in(v, RCV, UNA + 1, ACK | FIN, 400, NONE);
        Due.state("TIME WAIT", () -> v.write(C));
        v.close(C, 1);
        Due.state("CLOSED", () -> v.write(C));
    }

    private static void closing() {
        Due.sentence("how 1: CLOSED; from SYN CAME, OPEN, FIN WAIT 1 and 2, CLOSE WAIT a RST with NUMBER NEXT is sent first.");
        InternetHouse q = open();
        Due.missing("SOCKET 2", () -> q.close(2, 0));
        Due.missing("SOCKET before how", () -> q.close(-1, 2));
        Due.argument("how -1", () -> q.close(C, -1));
        Due.argument("how 2", () -> q.close(C, 2));
        // STATES 3 to 10 at SOCKET 1, and whether a RST is sent by how 1, and what how 0 makes of it.
        int[][] cases = {{3, 1, 3}, {4, 1, 5}, {5, 1, 5}, {6, 1, 6}, {7, 1, 9}, {8, 0, 8}, {9, 0, 9}, {10, 0, 10}};
        for (int[] c : cases) {
            InternetHouse x = inState(c[0]);
            x.run(4);
            int sent = x.count(1, 0);
            int next = x.state(C, 14);
            Due.is("STATE " + c[0] + ", how 1", 0, () -> x.close(C, 1));
            x.run(1);
            Due.is("STATE " + c[0] + ": RST", sent + c[1], () -> x.count(1, 0));
            if (c[1] == 1) {
                byte[] d = Wire.data(x, 4, 0);
                Due.said("NUMBER NEXT", d[12] + " " + (Wire.u32(d, 4) - first(0)), RST + " " + next);
            }
            InternetHouse y = inState(c[0]);
            Due.is("STATE " + c[0] + ", how 0", c[2], () -> y.close(C, 0));
        }
        Due.sentence("Those that a LISTEN one has not accepted are closed so, too, by how 1, first: the STATE.");
        for (int how = 0; how < 2; how++) {
            InternetHouse x = lone(0);
            x.socket(1, 2, 80);
            Due.inject(x, 4, Wire.segment(10, 100, 0, SYN, 300, NONE));
            Due.inject(x, 4, Wire.segment(11, 100, 0, SYN, 300, NONE));
            Due.inject(x, 4, Wire.segment(10, 101, first(0) + 1, ACK, 300, NONE));
            x.accept(0);
            int k = how;
            Due.is("CLOSED", 0, () -> x.close(0, k));
            Due.is("one that was accepted", 4, () -> x.state(1, 0));
            Due.is("one that was not", 0, () -> x.state(2, 0));
            Due.is("the SOCKET again", 0, () -> x.close(0, k));
            Due.is("it stays", 4, () -> x.state(1, 0));
        }
        InternetHouse z = Wire.pair(0);
        z.socket(0, 1, 5);
        z.connect(0, A2, 80);
        Due.is("SYN SENT, how 0", 0, () -> z.close(0, 0));
        z.socket(0, 1, 5);
        z.connect(1, A2, 80);
        int sent = z.count(0, 0);
        Due.is("SYN SENT, how 1", 0, () -> z.close(1, 1));
        z.run(1);
        Due.is("no RST (an ASK goes)", sent + 1, () -> z.count(0, 0));
        z.socket(0, 1, 5);
        Due.is("never connected", 0, () -> z.close(2, 1));
    }

    private static InternetHouse inState(int state) {
        if (state == 3) {
            InternetHouse x = lone(0);
            x.socket(1, 2, 80);
            in(x, 100, 0, SYN, 400, NONE);
            return x;
        }
        InternetHouse x = open();
        if (state == 7 || state == 9) {
            in(x, RCV, UNA, ACK | FIN, 400, NONE);
        }
        if (state == 5 || state == 6 || state >= 8) {
            x.close(C, 0);
        }
        if (state == 6 || state == 10) {
            in(x, RCV, UNA + 1, ACK, 400, NONE);
        }
        if (state == 8) {
            in(x, RCV, UNA, ACK | FIN, 400, NONE);
        }
        if (state == 10) {
            in(x, RCV, UNA + 1, ACK | FIN, 400, NONE);
        }
        Due.is("STATE", state, () -> x.state(C, 0));
        return x;
    }

    private static void wraps() {
        Due.sentence("NUMBERS are of 32 bits and wrap; x is BEHIND y if x - y, as an int, is above 0.");
        int[] own = {0, seedFor(-1, -1), seedFor(-60, -40), seedFor(Integer.MAX_VALUE - 60, Integer.MAX_VALUE - 40), seedFor(-2, -2),
            seedFor(Integer.MAX_VALUE - 3, Integer.MAX_VALUE)};
        int[] peer = {100, -1, -2, -30, Integer.MAX_VALUE, Integer.MAX_VALUE - 30, Integer.MIN_VALUE};
        for (int seed : own) {
            for (int far : peer) {
                InternetHouse x = open(seed, far, 400);
                int una = first(seed) + 1;
                String what = "FIRST " + first(seed) + ", NUMBER " + far;
                byte[] text = new byte[120];
                for (int i = 0; i < 120; i++) {
                    text[i] = (byte) (i + 1);
                }
                in(x, far + 41, una, ACK, 400, java.util.Arrays.copyOfRange(text, 40, 80));
                in(x, far + 1, una, ACK, 400, Wire.cut(text, 50));
                in(x, far + 61, una, ACK | FIN, 400, java.util.Arrays.copyOfRange(text, 60, 120));
                Due.is(what + ": read", 120, () -> x.read(C, 200));
                Due.outIs(what + ": bytes", x, new String(text, java.nio.charset.StandardCharsets.ISO_8859_1));
                Due.is(what + ": CLOSE WAIT", 7, () -> x.state(C, 0));
                Due.feed(x, new byte[144]);
                x.write(C);
                Due.is(what + ": FLIGHT", 96, () -> x.state(C, 9));
                in(x, far + 122, una + 97, ACK, 400, NONE);
                Due.is(what + ": BEHIND MOST", 96, () -> x.state(C, 9));
                in(x, far + 122, una + 48, ACK, 400, NONE);
                in(x, far + 122, una, ACK, 400, NONE);
                Due.is(what + ": ROW", 96, () -> x.state(C, 3));
                in(x, far + 122, una + 144, ACK, 400, NONE);
                Due.is(what + ": all thanked for", 0, () -> x.state(C, 3));
                x.close(C, 0);
                Due.is(what + ": NEXT - FIRST", 146, () -> x.state(C, 14));
                in(x, far + 122, una + 145, ACK, 400, NONE);
                Due.is(what + ": CLOSED", 0, () -> x.state(C, 0));
                Due.is(what + ": no FAILURE", 0, () -> x.state(C, 1));
            }
        }
        for (int seed : own) {
            InternetHouse x = Wire.pair(0, seed);
            x.socket(1, 2, 80);
            x.socket(0, 1, 0);
            x.connect(1, A2, 80);
            x.run(20);
            Due.is("both ends: OPEN", 4, () -> x.state(1, 0));
            Due.is("accept", 2, () -> x.accept(0));
            int got = 0;
            for (int i = 0; i < 20; i++) {
                Due.feed(x, new byte[100]);
                x.write(1);
                x.run(5);
                got += Math.max(0, x.read(2, 200));
            }
            x.close(1, 0);
            for (int i = 0; i < 20; i++) {
                x.run(20);
                got += Math.max(0, x.read(2, 200));
            }
            int all = got;
            Due.is("NEXT - FIRST is what came, SYN and FIN", all + 2, () -> x.state(1, 14));
            Due.is("the end", -2, () -> x.read(2, 1));
        }
    }

    public static void main(String[] args) {
        sockets();
        datagrams();
        listening();
        calling();
        wanted();
        thanks();
        pushing();
        timers();
        reading();
        closing();
        wraps();
        Due.end("BoundsSocketTest");
    }
}
