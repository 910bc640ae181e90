/** Promises 19 to 25: DATAGRAMS and STREAMS. */
public final class SocketsTest {
    private static final int A1 = Due.a(10, 0, 0, 1);
    private static final int A2 = Due.a(10, 0, 0, 2);

    private static InternetHouse pair() {
        InternetHouse x = new InternetHouse();
        x.node(0);
        x.node(0);
        x.line(0, 4, 1, 255, 148);
        x.address(0, A1, 24);
        x.address(4, A2, 24);
        return x;
    }

    private static void ports() {
        InternetHouse x = pair();
        x.node(1);
        Due.missing("NODE", () -> x.socket(3, 0, 5));
        Due.argument("kind", () -> x.socket(0, 3, 5));
        Due.argument("port", () -> x.socket(0, 0, 65536));
        Due.argument("port", () -> x.socket(2, 0, -1));
        Due.state("BRIDGE", () -> x.socket(2, 0, 5));
        Due.is("SOCKET", 0, () -> x.socket(0, 0, 5));
        Due.state("has the port", () -> x.socket(0, 0, 5));
        Due.is("a STREAM of the same port", 1, () -> x.socket(0, 1, 5));
        Due.state("LISTEN too", () -> x.socket(0, 2, 5));
        Due.is("another NODE", 2, () -> x.socket(1, 2, 5));
        Due.is("any", 3, () -> x.socket(0, 0, 0));
        Due.is("port 50000", 50000, () -> x.state(3, 10));
        Due.is("any", 4, () -> x.socket(0, 0, 0));
        Due.is("port 50001", 50001, () -> x.state(4, 10));
        Due.is("STREAMS count by themselves", 50000, () -> x.state(x.socket(0, 1, 0), 10));
        Due.is("closed", 0, () -> x.close(3, 0));
        Due.is("free again", 50000, () -> x.state(x.socket(0, 0, 0), 10));
        Due.is("STATE of DATAGRAMS", 4, () -> x.state(0, 0));
        Due.is("STATE of one that calls", 0, () -> x.state(1, 0));
        Due.is("STATE of one that LISTENS", 1, () -> x.state(2, 0));
        Due.is("NODE", 1, () -> x.state(2, 13));
        Due.is("CARE", 96, () -> x.state(1, 4));
        Due.is("EDGE", 240, () -> x.state(1, 5));
        Due.is("WAIT", 12, () -> x.state(1, 6));
        Due.is("none of DATAGRAMS", 0, () -> x.state(0, 4));
        Due.missing("SOCKET", () -> x.state(7, 0));
        Due.argument("what", () -> x.state(0, 17));
        Due.argument("what", () -> x.state(0, -1));
        Due.is("closed before it was connected", 0, () -> x.close(1, 0));
        Due.state("closed", () -> x.connect(1, A2, 5));
        Due.is("has the port no more", 7, () -> x.socket(0, 1, 5));
        for (int i = 8; i < 32; i++) {
            x.socket(0, 0, 0);
        }
        Due.state("32", () -> x.socket(0, 0, 0));
        x.set(1, 0, 0, 0, 0);
        Due.is("LISTEN FAILS 5", 5, () -> x.state(2, 1));
        Due.is("CLOSED", 0, () -> x.state(2, 0));
    }

    /** What came of one that LISTENS has its port, too, while it is not CLOSED: for port 0, not for one that is told. */
    private static void offspringPorts() {
        InternetHouse x = pair();
        int l = x.socket(1, 2, 0);
        Due.is("any", 50000, () -> x.state(l, 10));
        int c = x.socket(0, 1, 7);
        x.connect(c, A2, 50000);
        x.run(8);
        int mine = 2;
        Due.is("SYN CAME", 3, () -> x.state(mine, 0));
        Due.is("its port", 50000, () -> x.state(mine, 10));
        x.run(12);
        Due.is("accept", mine, () -> x.accept(l));
        Due.state("LISTEN has it", () -> x.socket(1, 1, 50000));
        x.close(l, 0);
        Due.is("OPEN", 4, () -> x.state(mine, 0));
        Due.is("the next one", 50001, () -> x.state(x.socket(1, 1, 0), 10));
        Due.is("that is used, too", 50002, () -> x.state(x.socket(1, 2, 0), 10));
        Due.is("DATAGRAMS by themselves", 50000, () -> x.state(x.socket(1, 0, 0), 10));
        Due.is("another NODE", 50000, () -> x.state(x.socket(0, 1, 0), 10));
        int again = x.socket(1, 2, 50000);
        Due.is("one that is told: not looked at", 50000, () -> x.state(again, 10));
        x.close(again, 0);
        x.close(c, 0);
        x.run(10);
        Due.is("CLOSE WAIT", 7, () -> x.state(mine, 0));
        Due.is("it has it still", 50003, () -> x.state(x.socket(1, 1, 0), 10));
        x.close(mine, 0);
        x.run(10);
        Due.is("CLOSED", 0, () -> x.state(mine, 0));
        Due.is("free", 50000, () -> x.state(x.socket(1, 1, 0), 10));
    }

    private static void datagrams() {
        InternetHouse x = pair();
        int a = x.socket(0, 0, 5);
        int b = x.socket(1, 0, 9);
        Due.missing("SOCKET", () -> x.connect(2, A2, 9));
        Due.argument("port", () -> x.connect(a, A2, 0));
        Due.feed(x, "abc");
        Due.state("not connected", () -> x.write(a));
        Due.is("TAPE stays", 3, () -> x.end(3));
        Due.is("connected", 1, () -> x.connect(a, A2, 9));
        Due.is("3 bytes", 3, () -> x.write(a));
        Due.argument("TAPE is empty", () -> x.end(1));
        Due.is("nothing yet", -1, () -> x.read(b, 10));
        x.run(10);
        Due.is("one to read", 1, () -> x.state(b, 2));
        Due.argument("n", () -> x.read(b, 0));
        Due.argument("n", () -> x.read(b, 201));
        Due.is("read", 9, () -> x.read(b, 1));
        Due.outIs("FROM, port, bytes", x, "\n\0\0\1\0\5abc");
        Due.is("no more", -1, () -> x.read(b, 1));
        Due.is("OUT stays", 9, () -> x.octet(-1));
        Due.feed(x, new byte[101]);
        Due.argument("100 at most", () -> x.write(a));
        for (int i = 0; i < 5; i++) {
            Due.feed(x, new byte[i]);
            x.write(a);
            x.run(2);
        }
        x.run(5);
        Due.is("4 are kept", 4, () -> x.state(b, 2));
        Due.is("the first", 6, () -> x.read(b, 1));
        x.connect(a, A2, 10);
        x.write(a);
        x.run(10);
        Due.is("UNREACHABLE 3: FAILURE 4", 4, () -> x.state(a, 1));
        Due.is("close", 0, () -> x.close(b, 0));
        Due.is("closed", -3, () -> x.read(b, 1));
        Due.state("closed", () -> x.connect(b, A1, 5));
        Due.state("closed", () -> x.write(b));
        x.connect(a, -1, 9);
        x.write(a);
        Due.is("far ADDRESS", -1, () -> x.state(a, 11));
        Due.is("far port", 9, () -> x.state(a, 12));
    }

    private static void handshake() {
        InternetHouse x = pair();
        int l = x.socket(1, 2, 80);
        int c = x.socket(0, 1, 1000);
        Due.state("it does not LISTEN", () -> x.accept(c));
        Due.missing("SOCKET", () -> x.accept(5));
        Due.state("KIND 2", () -> x.connect(l, A1, 5));
        Due.state("KIND 2", () -> x.read(l, 5));
        Due.state("KIND 2", () -> x.write(l));
        Due.state("not connected", () -> x.write(c));
        Due.argument("ALL", () -> x.connect(c, -1, 80));
        Due.argument("GROUP", () -> x.connect(c, Due.a(224, 0, 0, 1), 80));
        Due.is("connect", 1, () -> x.connect(c, A2, 80));
        Due.is("SYN SENT", 2, () -> x.state(c, 0));
        Due.is("NEXT", 1, () -> x.state(c, 14));
        Due.is("FLIGHT", 1, () -> x.state(c, 9));
        Due.state("once", () -> x.connect(c, A2, 80));
        Due.is("none yet", -1, () -> x.accept(l));
        // FIND 1 - 3 - 5, SYN at 5 comes at 7; SYN with ACK at 7 comes at 9; ACK comes at 11.
        x.run(6);
        Due.missing("no SOCKET yet", () -> x.state(2, 0));
        x.run(1);
        Due.is("SYN CAME", 3, () -> x.state(2, 0));
        Due.is("SYN: 36 bytes and 5", 41, () -> x.seen(0, 0, -1));
        Due.is("WHOLE", 64, () -> x.seen(0, 0, 9));
        Due.is("FLAGS", 2, () -> x.seen(0, 0, 33));
        Due.is("WINDOW", 400, () -> x.seen(0, 0, 35) * 256 + x.seen(0, 0, 36));
        int first = 1013904223;
        int second = 1664525 * first + 1013904223;
        Due.is("FIRST: two DRAWS", (first >>> 16) >> 8, () -> x.seen(0, 0, 25));
        Due.is("FIRST: two DRAWS", (second >>> 16) & 255, () -> x.seen(0, 0, 28));
        x.run(2);
        Due.is("OPEN", 4, () -> x.state(c, 0));
        Due.is("SYN with ACK", 18, () -> x.seen(4, 0, 33));
        Due.is("not yet", -1, () -> x.accept(l));
        x.run(2);
        Due.is("OPEN", 4, () -> x.state(2, 0));
        Due.is("accept", 2, () -> x.accept(l));
        Due.is("no more", -1, () -> x.accept(l));
        Due.feed(x, "hello");
        Due.is("write", 5, () -> x.write(c));
        Due.is("in the ROW", 5, () -> x.state(c, 3));
        x.run(3);
        Due.is("to read", 5, () -> x.state(2, 2));
        Due.is("read 2", 2, () -> x.read(2, 2));
        Due.outIs("he", x, "he");
        Due.is("read 3", 3, () -> x.read(2, 200));
        Due.outIs("llo", x, "llo");
        Due.is("no more", -1, () -> x.read(2, 200));
        x.run(2);
        Due.is("thanked for", 0, () -> x.state(c, 3));
        Due.is("a round trip of 5: S", 8 * 5, () -> x.state(c, 7));
        Due.is("WAIT 5 + 10", 15, () -> x.state(c, 6));
        Due.is("CARE 5 more", 101, () -> x.state(c, 4));
        Due.argument("how", () -> x.close(c, 2));
        Due.missing("SOCKET", () -> x.close(9, 0));
        Due.is("FIN WAIT 1", 5, () -> x.close(c, 0));
        Due.state("closed", () -> x.write(c));
        x.run(5);
        Due.is("FIN WAIT 2", 6, () -> x.state(c, 0));
        Due.is("CLOSE WAIT", 7, () -> x.state(2, 0));
        Due.is("the end", -2, () -> x.read(2, 1));
        Due.is("LAST ACK", 9, () -> x.close(2, 0));
        x.run(3);
        Due.is("TIME WAIT", 10, () -> x.state(c, 0));
        x.run(2);
        Due.is("CLOSED", 0, () -> x.state(2, 0));
        x.run(17);
        Due.is("TIME WAIT still", 10, () -> x.state(c, 0));
        x.run(1);
        Due.is("CLOSED after 20", 0, () -> x.state(c, 0));
        Due.is("no FAILURE", 0, () -> x.state(c, 1));
        Due.is("a FIN came", -2, () -> x.read(c, 1));
    }

    private static void failures() {
        InternetHouse x = pair();
        int c = x.socket(0, 1, 0);
        x.connect(c, A2, 80);
        x.run(15);
        Due.is("refused: 2", 2, () -> x.state(c, 1));
        Due.is("CLOSED", 0, () -> x.state(c, 0));
        int d = x.socket(0, 1, 0);
        x.connect(d, Due.a(10, 0, 0, 9), 80);
        x.run(30);
        Due.is("nobody there: 1", 1, () -> x.state(d, 1));
        int l = x.socket(1, 2, 80);
        int e = x.socket(0, 1, 0);
        x.connect(e, A2, 80);
        x.run(20);
        int f = x.accept(l);
        Due.is("RST", 0, () -> x.close(e, 1));
        x.run(5);
        Due.is("RST came: 3", 3, () -> x.state(f, 1));
        int g = x.socket(0, 1, 0);
        x.connect(g, A2, 80);
        x.run(20);
        Due.is("OPEN", 4, () -> x.state(g, 0));
        Due.is("LISTEN is closed, and who was not accepted", 0, () -> x.close(l, 0));
        x.run(5);
        Due.is("RST came: 3", 3, () -> x.state(g, 1));
        int l2 = x.socket(1, 2, 80);
        int h = x.socket(0, 1, 0);
        x.connect(h, A2, 80);
        x.run(20);
        x.quality(0, 6, 1);
        Due.feed(x, "abc");
        x.write(h);
        x.run(13);
        Due.is("TIMER", 1, () -> x.state(h, 15));
        Due.is("WAIT doubled", 24, () -> x.state(h, 6));
        Due.is("CARE", 48, () -> x.state(h, 4));
        Due.is("EDGE", 96, () -> x.state(h, 5));
        for (int i = 0; i < 12; i++) {
            x.run(30);
        }
        Due.is("7 TRIES: 4", 4, () -> x.state(h, 1));
        Due.is("LISTENS", 1, () -> x.state(l2, 0));
        int k = x.socket(1, 0, 77);
        x.set(1, 0, 0, 0, 0);
        Due.is("down: 5", 5, () -> x.state(k, 1));
        Due.state("down", () -> x.socket(1, 0, 78));
        x.set(0, 0, 0, 0, 0);
        int many = 8;
        Due.missing("no more SOCKETS", () -> x.state(many + 10, 0));
    }

    private static void wideWindow() {
        InternetHouse x = pair();
        int l = x.socket(1, 2, 80);
        int c = x.socket(0, 1, 0);
        x.connect(c, A2, 80);
        x.run(20);
        int s = x.accept(l);
        Due.feed(x, new byte[500]);
        Due.is("400 fit", 400, () -> x.write(c));
        Due.is("100 are left", 100, () -> x.end(100));
        x.run(40);
        Due.is("all came", 400, () -> x.state(s, 2));
        Due.is("FAR WINDOW", 0, () -> x.state(c, 8));
        Due.is("ROW is empty", 0, () -> x.state(c, 3));
        Due.is("more", 100, () -> x.write(c));
        x.run(40);
        Due.is("none may go", 400, () -> x.state(s, 2));
        Due.is("TRIES stay 0", 0, () -> x.state(c, 15));
        Due.is("read", 40, () -> x.read(s, 40));
        Due.is("read", 8, () -> x.read(s, 8));
        x.run(40);
        Due.is("48 more came", 352 + 48, () -> x.state(s, 2));
        Due.is("read", 200, () -> x.read(s, 200));
        Due.is("read", 200, () -> x.read(s, 200));
        x.run(40);
        x.run(40);
        Due.is("the rest", 52, () -> x.state(s, 2));
    }

    /** A HOST alone, to which SEGMENTS are injected. */
    private static byte[] segment(int number, int ack, int flags, int window, byte[] data) {
        byte[] h = Due.join(Due.bytes(0, 7, 0, 80), Due.word(number), Due.word(ack), Due.bytes(flags, 0, window >> 8, window, 0, 0));
        return Due.packet(6, 9, 0, 64, A1, A2, Due.summed(Due.join(h, data), 16));
    }

    private static void segments() {
        InternetHouse x = pair();
        int l = x.socket(1, 2, 80);
        Due.inject(x, 4, segment(100, 0, 16, 50, new byte[0]));
        x.run(6);
        Due.is("RST for an ACK", 4, () -> x.seen(4, 0, 33));
        Due.inject(x, 4, segment(100, 0, 4, 50, new byte[0]));
        Due.inject(x, 4, segment(100, 0, 2, 77, new byte[0]));
        Due.is("SYN CAME", 3, () -> x.state(1, 0));
        Due.is("FAR WINDOW", 77, () -> x.state(1, 8));
        Due.is("far port", 7, () -> x.state(1, 12));
        int second = 1664525 * 1013904223 + 1013904223;
        int fst = 1013904223 >>> 16 << 16 | second >>> 16;
        Due.inject(x, 4, segment(101, fst + 2, 16, 50, new byte[0]));
        x.run(3);
        Due.is("RST for a wrong ACK", 4, () -> x.seen(4, 0, 33));
        Due.is("still", 3, () -> x.state(1, 0));
        Due.inject(x, 4, segment(101, fst + 1, 16, 50, Due.bytes('a', 'b')));
        Due.is("OPEN", 4, () -> x.state(1, 0));
        Due.is("2 bytes", 2, () -> x.state(1, 2));
        Due.inject(x, 4, segment(105, fst + 1, 17, 50, Due.bytes('e')));
        Due.is("not in order", 2, () -> x.state(1, 2));
        Due.inject(x, 4, segment(104, fst + 1, 16, 50, Due.bytes('d', 'x', 'y')));
        Due.is("accept", 1, () -> x.accept(l));
        Due.inject(x, 4, segment(102, fst + 1, 16, 50, Due.bytes('z', 'c')));
        Due.is("5 bytes", 5, () -> x.state(1, 2));
        Due.is("the FIN too", 7, () -> x.state(1, 0));
        x.read(1, 9);
        Due.outIs("each the first that came", x, "abcde");
        Due.is("the end", -2, () -> x.read(1, 9));
        Due.inject(x, 4, segment(107, fst + 1, 4, 50, new byte[0]));
        Due.is("RST: 3", 3, () -> x.state(1, 1));
        Due.inject(x, 4, Due.packet(6, 9, 0, 64, A1, A2, new byte[17]));
        Due.is("short: WRONG", 1, () -> x.count(1, 4));
        x.inject(4);
        for (int i = 0; i < 4; i++) {
            byte[] h = Due.join(Due.bytes(0, 20 + i, 0, 80), Due.word(5), Due.word(0), Due.bytes(2, 0, 0, 9, 0, 0));
            Due.inject(x, 4, Due.packet(6, 9, 0, 64, A1, A2, Due.summed(h, 16)));
        }
        Due.is("3 that were not accepted", 3, () -> x.state(4, 0));
        Due.missing("no fourth", () -> x.state(5, 0));
    }

    public static void main(String[] args) {
        ports();
        offspringPorts();
        datagrams();
        handshake();
        failures();
        wideWindow();
        segments();
        Due.end("SocketsTest");
    }
}
