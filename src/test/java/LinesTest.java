/** Promises 1 to 7, 12 to 15, 30 to 32: TAPE, NODES, LINES, FRAMES and their ROWS. */
public final class LinesTest {
    private static void tapeAndNodes() {
        InternetHouse x = new InternetHouse();
        Due.is("feed", 20, () -> x.feed(0x01020304, 0, 0, 0, -1));
        Due.is("end", 3, () -> x.end(3));
        Due.argument("end beyond", () -> x.end(4));
        Due.argument("end below 0", () -> x.end(-1));
        Due.is("end 0", 0, () -> x.end(0));
        for (int i = 1; i <= 25; i++) {
            x.feed(0, 0, 0, 0, 0);
        }
        Due.state("feed beyond 512", () -> x.feed(0, 0, 0, 0, 0));
        Due.is("all stays", 500, () -> x.end(500));
        Due.is("OUT is empty", 0, () -> x.octet(-1));
        Due.missing("no byte of OUT", () -> x.octet(0));
        Due.missing("no byte of OUT", () -> x.octet(-2));
        Due.argument("kind", () -> x.node(3));
        Due.argument("kind", () -> x.node(-1));
        for (int i = 0; i < 12; i++) {
            int want = i;
            Due.is("node", want, () -> x.node(want % 3));
        }
        Due.state("12 NODES", () -> x.node(0));
        Due.argument("kind before room", () -> x.node(9));
        x.run(7);
        Due.is("begin", 7, () -> x.begin(5));
        Due.argument("TAPE is empty", () -> x.end(1));
        Due.missing("no NODE", () -> x.count(0, 0));
        Due.is("begin", 0, () -> x.begin(5));
        Due.is("audit", 0, x::audit);
    }

    private static void linesThrow() {
        InternetHouse x = new InternetHouse();
        x.node(0);
        x.node(0);
        Due.missing("PORT", () -> x.line(8, 0, 1, 8, 60));
        Due.missing("PORT", () -> x.line(0, -1, 0, 8, 60));
        Due.argument("one NODE", () -> x.line(0, 3, 1, 8, 60));
        Due.argument("delay", () -> x.line(0, 4, 0, 8, 60));
        Due.argument("delay", () -> x.line(0, 4, 21, 8, 60));
        Due.argument("rate", () -> x.line(0, 4, 1, 7, 60));
        Due.argument("rate", () -> x.line(0, 4, 1, 256, 60));
        Due.argument("size", () -> x.line(0, 4, 1, 8, 59));
        Due.argument("size", () -> x.line(0, 4, 1, 8, 149));
        Due.is("line", 0, () -> x.line(0, 4, 1, 8, 60));
        Due.state("has one", () -> x.line(1, 4, 1, 8, 60));
        Due.argument("numbers before", () -> x.line(0, 4, 1, 8, 600));
        Due.missing("LINE", () -> x.quality(1, 0, 0));
        Due.argument("what", () -> x.quality(0, 7, 0));
        Due.argument("chance", () -> x.quality(0, 0, 256));
        Due.argument("delay", () -> x.quality(0, 3, 0));
        Due.argument("rate", () -> x.quality(0, 4, 7));
        Due.argument("size", () -> x.quality(0, 5, 149));
        Due.argument("cut", () -> x.quality(0, 6, 2));
        Due.is("chance", 0, () -> x.quality(0, 1, 255));
        Due.is("chance was", 255, () -> x.quality(0, 1, 0));
        Due.is("delay was", 1, () -> x.quality(0, 3, 20));
        Due.is("rate was", 8, () -> x.quality(0, 4, 255));
        Due.is("size was", 60, () -> x.quality(0, 5, 148));
        Due.is("cut was", 0, () -> x.quality(0, 6, 1));
        Due.is("cut was", 1, () -> x.quality(0, 6, 0));
        Due.argument("run", () -> x.run(0));
        Due.argument("run", () -> x.run(41));
        Due.is("run", 40, () -> x.run(40));
        for (int i = 2; i < 12; i++) {
            x.node(0);
        }
        for (int i = 1; i < 20; i++) {
            int k = i;
            Due.is("line", k, () -> x.line(k < 4 ? k : 8 + (k - 4) / 4 * 8 + k % 4, k < 4 ? 4 + k : 12 + (k - 4) / 4 * 8 + k % 4, 1, 8, 60));
        }
        Due.state("20 LINES", () -> x.line(40, 44, 1, 8, 60));
    }

    /** Two HOSTS; a FIND of 15 bytes is asked for by an ECHO. */
    private static InternetHouse pair(int delay, int rate) {
        InternetHouse x = new InternetHouse();
        x.node(0);
        x.node(0);
        x.line(0, 4, delay, rate, 148);
        x.address(0, Due.a(10, 0, 0, 1), 24);
        x.address(4, Due.a(10, 0, 0, 2), 24);
        return x;
    }

    private static void delays() {
        InternetHouse x = pair(3, 8);
        Due.missing("nothing sent", () -> x.seen(0, 0, -1));
        x.echo(0, Due.a(10, 0, 0, 2), 0, 32);
        x.run(1);
        Due.is("FIND of 15 bytes", 15, () -> x.seen(0, 0, -1));
        Due.is("sent at 1", 1, () -> x.seen(0, 0, -2));
        Due.is("TO all", 255, () -> x.seen(0, 0, 0));
        Due.is("FROM", 1, () -> x.seen(0, 0, 1));
        Due.is("KIND", 2, () -> x.seen(0, 0, 2));
        Due.is("ASK", 1, () -> x.seen(0, 0, 3));
        Due.is("its LINK ADDRESS", 1, () -> x.seen(0, 0, 4));
        Due.is("its ADDRESS", 1, () -> x.seen(0, 0, 8));
        Due.is("ADDRESS wanted", 2, () -> x.seen(0, 0, 12));
        byte[] f = Due.frame(255, 1, 2, Due.join(Due.bytes(1, 1), Due.word(Due.a(10, 0, 0, 1)), Due.word(Due.a(10, 0, 0, 2))));
        Due.is("CHECK", f[13] & 255, () -> x.seen(0, 0, 13));
        Due.is("CHECK", f[14] & 255, () -> x.seen(0, 0, 14));
        Due.missing("no byte", () -> x.seen(0, 0, 15));
        Due.missing("no byte", () -> x.seen(0, 0, -3));
        Due.missing("no second FRAME", () -> x.seen(0, 1, 0));
        Due.missing("PORT", () -> x.seen(8, 0, 0));
        Due.missing("place", () -> x.seen(0, 4, 0));
        // 15 bytes at 8 in a UNIT: BUSY till 3, then 3 UNITS: it comes at 6, and an ANSWER goes off then.
        x.run(4);
        Due.is("not there yet", 0, () -> x.count(1, 1));
        x.run(1);
        Due.is("there", 1, () -> x.count(1, 1));
        Due.is("ANSWER at 6", 6, () -> x.seen(4, 0, -2));
        Due.is("ANSWER TO it", 1, () -> x.seen(4, 0, 0));
        x.run(5);
        Due.is("ECHO of 31 bytes", 31, () -> x.seen(0, 0, -1));
        Due.is("ECHO at 11", 11, () -> x.seen(0, 0, -2));
        Due.is("two ASKS and the ECHO sent", 3, () -> x.count(0, 0));
        // 31 bytes: 4 UNITS, 3 more: 18; back at 25.
        x.run(13);
        Due.missing("no answer yet", () -> x.look(0, 13, 0, 0));
        x.run(1);
        Due.is("answered at 25", 25, () -> x.look(0, 13, 0, 4));
        Due.missing("NODE", () -> x.count(2, 0));
        Due.argument("what", () -> x.count(0, 10));
        Due.argument("what", () -> x.count(0, -1));
    }

    /** DRAWS as the document says them. */
    private static int next(int c) {
        return 1664525 * c + 1013904223;
    }

    private static void chances() {
        InternetHouse x = pair(1, 255);
        x.quality(0, 0, 255);
        x.echo(0, Due.a(10, 0, 0, 2), 0, 32);
        int first = next(0) >>> 16;
        x.run(4);
        Due.is("LOST unless the DRAW is 255", first % 256 < 255 ? 0 : 1, () -> x.count(1, 1));
        Due.is("sent all the same", 1, () -> x.count(0, 0));
        InternetHouse y = pair(1, 255);
        y.begin(77);
        y.node(0);
        y.node(0);
        y.line(0, 4, 1, 255, 148);
        y.address(0, Due.a(10, 0, 0, 1), 24);
        y.address(4, Due.a(10, 0, 0, 2), 24);
        y.quality(0, 1, 255);
        y.capture(0, 1);
        y.echo(0, Due.a(10, 0, 0, 2), 0, 32);
        y.run(4);
        Due.is("SPOILT", 1, () -> y.count(1, 2));
        Due.is("not ARRIVED", 0, () -> y.count(1, 1));
        Due.is("taken down", 1, () -> y.capture(0, 2));
        Due.is("6 and 15 bytes", 21, () -> y.octet(-1));
        Due.is("TIME", 1, () -> y.octet(3));
        Due.is("PORT", 0, () -> y.octet(4));
        Due.is("length", 15, () -> y.octet(5));
        Due.is("as sent", 2, () -> y.octet(8));
        InternetHouse z = pair(1, 255);
        z.quality(0, 2, 255);
        z.echo(0, Due.a(10, 0, 0, 2), 0, 32);
        z.run(3);
        Due.is("first COPY", 1, () -> z.count(1, 1));
        z.run(1);
        Due.is("second COPY one UNIT later", first % 256 < 255 ? 2 : 1, () -> z.count(1, 1));
    }

    private static void cut() {
        InternetHouse x = pair(5, 255);
        x.echo(0, Due.a(10, 0, 0, 2), 0, 32);
        x.run(2);
        x.quality(0, 6, 1);
        x.run(10);
        Due.is("COPY is lost", 0, () -> x.count(1, 1));
        Due.is("ASK waits in its ROW", 1, () -> x.count(0, 0));
        x.quality(0, 6, 0);
        x.run(1);
        Due.is("goes when mended", 2, () -> x.count(0, 0));
        x.set(1, 0, 0, 0, 0);
        x.run(7);
        Due.is("lost at a NODE that is down", 0, () -> x.count(1, 1));
        Due.feed(x, new byte[5]);
        Due.state("down", () -> x.inject(4));
        Due.is("TAPE stays", 5, () -> x.end(5));
        Due.missing("PORT", () -> x.inject(8));
        Due.is("short FRAME", 4, () -> {
            x.end(4);
            return x.inject(0);
        });
        Due.is("SPOILT", 1, () -> x.count(0, 2));
        Due.feed(x, new byte[300]);
        Due.is("160 bytes at most", 160, () -> x.inject(0));
        Due.argument("TAPE is empty", () -> x.end(1));
    }

    private static void capture() {
        InternetHouse x = pair(1, 255);
        Due.missing("LINE", () -> x.capture(1, 0));
        Due.argument("what", () -> x.capture(0, 3));
        Due.is("begun", 0, () -> x.capture(0, 1));
        for (int i = 0; i < 8; i++) {
            x.echo(0, Due.a(10, 0, 0, 2), 100, 32);
            x.run(5);
        }
        Due.is("12 at most", 12, () -> x.capture(0, 2));
        // FIND, ANSWER: 21 each; then 131 + 6 each: 3 of these are whole within 512.
        Due.is("as many as are whole", 2 * 21 + 3 * 137, () -> x.octet(-1));
        Due.is("no more", 12, () -> x.capture(0, 0));
        x.run(5);
        Due.is("those from before are gone", 0, () -> x.capture(0, 1));
        Due.is("OUT is empty", 0, () -> {
            x.capture(0, 2);
            return x.octet(-1);
        });
    }

    /** A HOST whose FRAMES wait; first bytes of what it sends next tell which went. */
    private static void rowsAndQuanta() {
        InternetHouse x = new InternetHouse();
        x.node(1);
        x.node(1);
        x.line(0, 4, 1, 255, 148);
        x.line(1, 5, 1, 255, 148);
        x.run(5);
        Due.is("forwards", 1, () -> x.bridge(0, 1));
        Due.is("forwards", 1, () -> x.bridge(1, 1));
        x.quality(1, 6, 1);
        // FRAMES of CLASSES 0, 1 come at PORT 0 of the first BRIDGE and wait for PORT 1, whose LINE is CUT.
        for (int i = 0; i < 9; i++) {
            Due.feed(x, Due.frame(200, 100, 3, Due.join(Due.bytes(64), new byte[54])));
            x.inject(0);
        }
        Due.is("the 9th is DROPPED", 1, () -> x.count(0, 3));
        for (int i = 0; i < 2; i++) {
            Due.feed(x, Due.frame(200, 100, 3, Due.join(Due.bytes(65), new byte[54])));
            x.inject(0);
        }
        x.quality(1, 6, 0);
        int sent = (int) x.count(0, 0);
        Due.argument("quantum", () -> x.set(0, 3, 1, 0, 0));
        Due.argument("class", () -> x.set(0, 3, 1, 3, 1));
        Due.argument("port", () -> x.set(0, 3, 4, 0, 1));
        x.set(0, 3, 1, 0, 120);
        x.set(0, 3, 1, 1, 60);
        // 60 bytes each; TIME is odd or even: a NOTICE may go first at even ones.
        StringBuilder order = new StringBuilder();
        for (int i = 0; i < 16; i++) {
            int before = (int) x.count(0, 0);
            x.run(1);
            if (x.seen(1, 0, -2) == 5 + i + 1 && x.seen(1, 0, 2) == 3) {
                order.append(x.seen(1, 0, 3) & 3);
            }
        }
        // TURN 0 with DEFICIT 0 goes on: CLASS 1 gets 60, sends one; CLASS 2 none; CLASS 0 gets 120: two; ...
        if (!order.toString().equals("10010000")) {
            Due.is("order " + order, 1, () -> 0);
        }
        Due.is("went", 1, () -> x.count(0, 0) > sent ? 1 : 0);
    }

    private static void buckets() {
        InternetHouse x = pair(1, 255);
        Due.argument("fill", () -> x.set(0, 4, 0, 256, 10));
        Due.argument("size", () -> x.set(0, 4, 0, 1, 0));
        Due.argument("size", () -> x.set(0, 4, 0, 1, 1001));
        x.set(0, 4, 0, 5, 20);
        x.echo(0, Due.a(10, 0, 0, 9), 0, 32);
        x.run(1);
        Due.is("15 of 20 TOKENS", 1, () -> x.count(0, 0));
        // an ASK more at 8 UNITS: TOKENS are 20 again; at 16 too.
        x.run(8);
        Due.is("second ASK at 8", 8, () -> x.seen(0, 0, -2));
        x.set(0, 4, 0, 5, 14);
        x.run(20);
        Due.is("never as many TOKENS as bytes", 2, () -> x.count(0, 0));
        x.set(0, 4, 0, 0, 14);
        x.run(1);
        Due.is("no BUCKET", 3, () -> x.count(0, 0));
    }

    public static void main(String[] args) {
        tapeAndNodes();
        linesThrow();
        delays();
        chances();
        cut();
        capture();
        rowsAndQuanta();
        buckets();
        Due.end("LinesTest");
    }
}
