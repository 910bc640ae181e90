/** Boundary cases of FILTERS, FLOWS, what is REWRITTEN, TUNNELS and GROUPS. */
public final class BoundsGuardTest {
    private static final int A1 = Wire.A1;
    private static final int A2 = Wire.A2;
    private static final int B1 = Wire.B1;
    private static final int B2 = Wire.B2;

    private static InternetHouse with(String text) {
        InternetHouse x = Wire.pair(0);
        Due.is("load", text.split("\n").length, () -> Wire.load(x, 0, 0, text));
        return x;
    }

    /** 1 if a FILTER lets a PACKET come in that arrives at PORT 0. */
    private static int passes(String text, byte[] packet) {
        InternetHouse x = with(text);
        Due.inject(x, 0, packet);
        return x.count(0, 9) > 0 ? 1 : x.count(0, 5) == 1 ? 0 : -1;
    }

    private static byte[] to(int protocol, int piece, int from, byte[] data) {
        return Due.packet(protocol, 9, 0, piece, from, A1, data);
    }

    private static void rules() {
        Due.sentence("A HOST or ROUTER has at most 12 RULES");
        InternetHouse x = Wire.pair(0);
        Due.is("12", 12, () -> Wire.load(x, 0, 0, "pass\n".repeat(12)));
        Due.is("13", -13, () -> Wire.load(x, 0, 0, "drop\n".repeat(13)));
        Due.inject(x, 0, to(99, 0, A2, new byte[0]));
        Due.is("all else stays", 0, () -> x.count(0, 5));
        Due.is("none", 0, () -> Wire.load(x, 0, 0, ""));
        Due.sentence("PORTS from - to (of where it goes: the second two bytes of DATA of PROTOCOLS 6 and 17, PLACE 0, with 4 bytes or more)");
        int[] port = {4, 5, 6, 7};
        int[] want = {1, 0, 0, 1};
        for (int i = 0; i < 4; i++) {
            int k = i;
            Due.is("5 to 6: " + port[k], want[k], () -> passes("drop port 5 6", to(17, 0, A2, Due.bytes(0, 5, 0, port[k]))));
            Due.is("5 to 6: " + port[k] + " of STREAMS", want[k], () -> passes("drop port 5 6", to(6, 0, A2, Due.bytes(0, 5, 0, port[k]))));
        }
        Due.is("one port", 0, () -> passes("drop port 65535 65535", to(17, 0, A2, Due.bytes(0, 5, 255, 255))));
        Due.is("port 0", 0, () -> passes("drop port 0 0", to(17, 0, A2, Due.bytes(0, 5, 0, 0))));
        Due.is("3 bytes", 1, () -> passes("drop port 0 65535", to(17, 0, A2, new byte[3])));
        Due.is("4 bytes", 0, () -> passes("drop port 0 65535", to(17, 0, A2, new byte[4])));
        Due.is("CONTROL", 1, () -> passes("drop port 0 65535", to(1, 0, A2, Due.summed(new byte[8], 2))));
        Due.is("PROTOCOL 99", 1, () -> passes("drop port 0 65535", to(99, 0, A2, new byte[8])));
        Due.is("PLACE 0, MORE", 0, () -> passes("drop port 0 65535", to(17, 128, A2, new byte[8])));
        Due.is("PLACE 1", -1, () -> passes("drop port 0 65535", to(17, 1, A2, new byte[8])));
        Due.sentence("PROTOCOL, a NET of FROM, a NET of TO");
        Due.is("PROTOCOL 0", 0, () -> passes("drop proto 0", to(0, 0, A2, new byte[0])));
        Due.is("PROTOCOL 255", 0, () -> passes("drop proto 255", to(255, 0, A2, new byte[0])));
        Due.is("PROTOCOL 254", 1, () -> passes("drop proto 255", to(254, 0, A2, new byte[0])));
        Due.is("FROM within 31 BITS", 0, () -> passes("drop from 10.0.0.2/31", to(99, 0, A2 + 1, new byte[0])));
        Due.is("FROM behind 31 BITS", 1, () -> passes("drop from 10.0.0.2/31", to(99, 0, A2 + 2, new byte[0])));
        Due.is("FROM before 31 BITS", 1, () -> passes("drop from 10.0.0.2/31", to(99, 0, A1, new byte[0])));
        Due.is("FROM 0 BITS", 0, () -> passes("drop from 0.0.0.0/0", to(99, 0, -5, new byte[0])));
        Due.is("FROM 32 BITS", 0, () -> passes("drop from 255.255.255.254/32", to(99, 0, -2, new byte[0])));
        Due.is("TO 32 BITS", 0, () -> passes("drop to 10.0.0.1/32", to(99, 0, A2, new byte[0])));
        Due.is("TO another", 1, () -> passes("drop to 10.0.0.0/32", to(99, 0, A2, new byte[0])));
        Due.sentence("AT (the NODE's PORT, 0 to 3, at which it came), KNOWN.");
        InternetHouse at = with("drop at 3");
        for (int p = 0; p < 4; p++) {
            Due.inject(at, p, to(99, 0, A2, new byte[0]));
        }
        Due.is("at 3 alone", 1, () -> at.count(0, 5));
        Due.is("at 0 to 2", 3, () -> at.count(0, 9));
        at.echo(0, A1, 0, 32);
        at.run(1);
        Due.is("from no PORT", 4, () -> at.count(0, 9));
        Due.sentence("The first RULE all of whose CONDITIONS hold says what is done with a PACKET that comes in from a PORT (none: PASS); REFUSE: it is UNREACHABLE 13, and dropped, as by DROP (counted as FILTERED).");
        Due.is("none", 1, () -> passes("drop proto 5\nrefuse proto 6", to(99, 0, A2, new byte[0])));
        Due.is("the first", 1, () -> passes("pass proto 99\ndrop", to(99, 0, A2, new byte[0])));
        Due.is("all CONDITIONS", 1, () -> passes("drop proto 99 at 1", to(99, 0, A2, new byte[0])));
        InternetHouse r = with("refuse proto 99\ndrop");
        Due.inject(r, 0, to(99, 0, A2, new byte[0]));
        Due.is("REFUSE: an ERROR less", 5, () -> r.look(0, 15, 0, 5));
        Due.inject(r, 0, to(98, 0, A2, new byte[0]));
        Due.is("DROP: none", 5, () -> r.look(0, 15, 0, 5));
        Due.is("both FILTERED", 2, () -> r.count(0, 5));
        Due.inject(r, 0, Wire.cut(to(99, 0, A2, new byte[0]), 17));
        Due.is("a WRONG one is not FILTERED", 2, () -> r.count(0, 5));
    }

    private static byte[] flow(int i) {
        return to(17, 0, A2, Due.bytes(i >> 8, i, 0, 5));
    }

    private static void flows() {
        Due.sentence("FLOWS, at most 12 in a NODE with RULES: each PROTOCOL, FROM, its port, TO, its port");
        InternetHouse none = Wire.pair(0);
        Due.inject(none, 0, flow(1));
        Due.is("without RULES", 0, () -> Wire.rows(none, 0, 10));
        InternetHouse x = with("drop proto 7\npass");
        for (int i = 0; i < 12; i++) {
            Due.inject(x, 0, flow(i));
        }
        Due.is("12", 12, () -> Wire.rows(x, 0, 10));
        Due.sentence("gives that its TIME, or is a new one (with 12 that of the least time, of these the first made, goes).");
        x.run(1);
        Due.inject(x, 0, flow(0));
        Due.inject(x, 0, flow(12));
        Due.is("still 12", 12, () -> Wire.rows(x, 0, 10));
        Due.is("the first has a later time", 0, () -> x.look(0, 10, 0, 2));
        Due.is("its time", 1, () -> x.look(0, 10, 0, 5));
        Due.is("the second went", 2, () -> x.look(0, 10, 1, 2));
        Due.is("the new one is the last", 12, () -> x.look(0, 10, 11, 2));
        Due.inject(x, 0, to(7, 0, A2, new byte[8]));
        Due.is("one that does not PASS makes none", 2, () -> x.look(0, 10, 1, 2));
        Due.sentence("(ports: of 6 and 17 as above, the first and second two bytes; of an ECHO or ANSWER of PLACE 0 with 8 bytes of DATA or more the first NUMBER for both; else 0; pieces of a PLACE above 0 are of no FLOW), a time.");
        byte[] echo = Due.control(8, 0, 300, 9, new byte[0]);
        byte[] answer = Due.control(0, 0, 301, 9, new byte[0]);
        Object[][] cases = {
            {to(17, 0, A2, Due.bytes(1, 2, 3, 4)), 258, 772}, {to(6, 0, A2, Due.bytes(1, 2, 3, 4)), 258, 772},
            {to(17, 0, A2, Due.bytes(1, 2, 3)), 0, 0}, {to(17, 128, A2, Due.bytes(1, 2, 3, 4, 0, 0, 0, 0)), 258, 772},
            {to(99, 0, A2, Due.bytes(1, 2, 3, 4)), 0, 0}, {to(1, 0, A2, echo), 300, 300}, {to(1, 0, A2, answer), 301, 301},
            {to(1, 0, A2, Wire.cut(echo, 7)), 0, 0}, {to(1, 0, A2, Due.control(3, 0, 302, 9, new byte[0])), 0, 0},
        };
        for (int i = 0; i < cases.length; i++) {
            InternetHouse y = with("pass");
            Due.inject(y, 0, (byte[]) cases[i][0]);
            int k = i;
            Due.is("case " + k + ": FROM's port", (Integer) cases[k][1], () -> y.look(0, 10, 0, 2));
            Due.is("case " + k + ": TO's port", (Integer) cases[k][2], () -> y.look(0, 10, 0, 4));
        }
        InternetHouse piece = with("pass");
        Due.inject(piece, 0, to(17, 1, A2, Due.bytes(1, 2, 3, 4)));
        Due.is("PLACE 1", 0, () -> Wire.rows(piece, 0, 10));
        Due.sentence("A PACKET is KNOWN if there is a FLOW with its ends, either way round, not more than 40 UNITS old.");
        for (int units = 40; units < 42; units++) {
            InternetHouse y = Wire.pair(0);
            Wire.load(y, 0, 0, "pass known\npass proto 17 from 10.0.0.2/32\ndrop");
            Due.inject(y, 0, flow(5));
            Wire.runs(y, units);
            Due.inject(y, 0, Due.packet(17, 9, 0, 0, A1, A2, Due.bytes(0, 5, 0, 5)));
            int want = units == 40 ? 0 : 1;
            Due.is(units + " UNITS, the other way round", want, () -> y.count(0, 5));
            Due.inject(y, 0, Due.packet(17, 9, 0, 0, A1, A2, Due.bytes(0, 6, 0, 5)));
            Due.is("another port", want + 1, () -> y.count(0, 5));
            Due.inject(y, 0, Due.packet(6, 9, 0, 0, A1, A2, Due.bytes(0, 5, 0, 5)));
            Due.is("another PROTOCOL", want + 2, () -> y.count(0, 5));
        }
        Due.sentence("One that PASSES, or is SENT as one's own by THE WAY, and is of a FLOW");
        InternetHouse own = with("pass");
        own.echo(0, Due.a(99, 0, 0, 1), 0, 32);
        own.echo(0, A1, 0, 32);
        Due.is("without a WAY, INSIDE", 0, () -> Wire.rows(own, 0, 10));
        own.echo(0, A2, 0, 32);
        Due.is("by THE WAY", 1, () -> Wire.rows(own, 0, 10));
        Due.is("its port", 2, () -> own.look(0, 10, 0, 2));
    }

    private static void texts() {
        Due.sentence("each at most once, in any order (proto, N up to 255; ports up to 65535, the first not above the second; at 0 to 3).");
        InternetHouse x = Wire.pair(0);
        String[] right = {"pass proto 255", "drop port 65535 65535", "refuse port 0 0", "pass at 3", "pass at 0", "drop known",
            "pass known at 0 port 1 2 to 1.2.3.4/32 from 0.0.0.0/0 proto 0", "pass proto 000000255"};
        for (String s : right) {
            Due.is(s, 1, () -> Wire.load(x, 0, 0, s));
        }
        String[] wrong = {"pass proto 256", "drop port 65536 65536", "drop port 0 65536", "refuse port 1 0", "pass at 4", "pass proto",
            "pass port 1", "pass from", "pass at", "pass 5", "proto 5", "pass pass", "pass proto 1 proto 1", "pass port 1 2 port 1 2",
            "pass at 1 at 1", "pass known known", "pass from 1.0.0.0/8 from 1.0.0.0/8", "pass to 1.0.0.0/8 to 1.0.0.0/8",
            "pass to 1.0.0.0/7", "pass to 1.0.0.0/33", "pass to 1.0.0.0", "pass to 1.0.0.0/", "pass to /8", "pass KNOWN", "Pass", "pass -1"};
        for (String s : wrong) {
            Due.is(s, -1, () -> Wire.load(x, 0, 0, s));
        }
        Due.sentence("N: 1 to 9 digits; A: an ADDRESS, four N of 0 to 255 with dots; A/B: a NET, B an N.");
        Due.is("10 digits", -1, () -> Wire.load(x, 0, 0, "pass proto 0000000001"));
        Due.is("a letter", -1, () -> Wire.load(x, 0, 0, "pass proto 1a"));
        Due.is("256", -1, () -> Wire.load(x, 0, 0, "pass from 256.0.0.0/8"));
        Due.is("255", 1, () -> Wire.load(x, 0, 0, "pass from 255.255.255.255/32"));
        Due.is("three", -1, () -> Wire.load(x, 0, 0, "pass from 10.0.0/8"));
        Due.is("five", -1, () -> Wire.load(x, 0, 0, "pass from 10.0.0.0.0/8"));
        Due.is("an empty one", -1, () -> Wire.load(x, 0, 0, "pass from 10..0.0/8"));
        Due.is("9 digits each", -1, () -> Wire.load(x, 0, 0, "pass from 000000010.000000000.000000000.000000000/8"));
        Due.is("40 bytes", 1, () -> Wire.load(x, 0, 0, "pass from 000000010.000000000.000000000.00000000/8"));
        Due.is("two slashes", -1, () -> Wire.load(x, 0, 0, "pass from 10.0.0.0/8/8"));
        Due.sentence("a WORD of more than 40 bytes, or a byte that is no letter, digit or one of . - * / can't stand anywhere.");
        String forty = "/00000000000000000000000000000000000000";
        Due.is("a WORD of 40 that is none here", -1, () -> Wire.load(x, 0, 0, "pass " + forty + "0"));
        Due.is("B of 9 digits: 18 and 22 bytes", 1, () -> Wire.load(x, 0, 0, "pass from 0000000.0000000.0000000.000000/000000000"));
        Due.is("41 bytes", -1, () -> Wire.load(x, 0, 0, "pass from 0000000.0000000.0000000.0000000/000000000"));
        for (int c : new int[] {0, 9, 13, 33, '+', ',', ':', '@', '[', '`', '{', '_', 127, 128, 255}) {
            Due.is("byte " + c, -2, () -> Wire.load(x, 0, 0, "pass\npass known" + (char) c));
            Due.is("byte " + c + " alone", -2, () -> Wire.load(x, 0, 0, "pass\n" + (char) c + "\npass"));
        }
        Due.sentence("The TAPE as LINES (ended by byte 10 or the end), WORDS parted by blanks (bytes 32); a LINE without WORDS says nothing (a byte 10 at the very end begins none);");
        Due.is("no byte", 0, () -> Wire.load(x, 0, 0, ""));
        Due.is("byte 10 alone", 0, () -> Wire.load(x, 0, 0, "\n"));
        Due.is("blanks alone", 0, () -> Wire.load(x, 0, 0, "   "));
        Due.is("LINES without WORDS are counted", -4, () -> Wire.load(x, 0, 0, "\n  \npass\nno\n"));
        Due.is("byte 10 at the end", 2, () -> Wire.load(x, 0, 0, "pass\ndrop\n"));
        Due.is("blanks before and behind", 1, () -> Wire.load(x, 0, 0, "   pass    proto   5   "));
        StringBuilder all = new StringBuilder("pass");
        while (all.length() < 512) {
            all.append(' ');
        }
        Due.is("512 bytes", 1, () -> Wire.load(x, 0, 0, all.toString()));
        Due.is("256 WORDS", -1, () -> Wire.load(x, 0, 0, "a ".repeat(256)));
        Due.is("512 LINES", 0, () -> Wire.load(x, 0, 0, "\n".repeat(512)));
        Due.is("the last LINE of 512", -512, () -> Wire.load(x, 0, 0, "\n".repeat(511) + "a"));
        Due.sentence("A text is taken wholly, or not at all: then the first LINE that is not right tells it (also by room, or what must be there before).");
        Wire.load(x, 0, 0, "drop proto 99");
        Due.is("the first of two", -2, () -> Wire.load(x, 0, 0, "pass\nno\nno"));
        Due.argument("the TAPE is empty", () -> x.end(1));
        Due.inject(x, 0, to(99, 0, A2, new byte[0]));
        Due.is("all else stays", 1, () -> x.count(0, 5));
        Due.sentence("The TAPE, empty then (taken or not), becomes the FILTER (kind 0), POLICY (1), ZONES (2) of a NODE, in place of what was: how many RULES or ROWS;");
        Due.sentence("-1 less the first LINE (from 0) that is not right, and all else stays. IllegalArgumentException: another kind. IllegalStateException: a BRIDGE; POLICY at no ROUTER.");
        InternetHouse y = new InternetHouse();
        for (int i = 0; i < 3; i++) {
            y.node(i);
        }
        Due.feed(y, "no");
        Due.missing("NODE 3", () -> y.load(3, 0));
        Due.missing("NODE before kind", () -> y.load(-1, 3));
        Due.argument("kind -1", () -> y.load(0, -1));
        Due.argument("kind 3", () -> y.load(0, 3));
        Due.argument("kind before the BRIDGE", () -> y.load(1, 3));
        for (int k = 0; k < 3; k++) {
            int kind = k;
            Due.state("a BRIDGE: " + k, () -> y.load(1, kind));
        }
        Due.state("POLICY at a HOST", () -> y.load(0, 1));
        Due.is("the TAPE stays", 2, () -> Wire.tape(y));
        Due.is("POLICY at a ROUTER", -1, () -> y.load(2, 1));
        Due.argument("the TAPE is empty, not taken", () -> y.end(1));
    }

    /** HOST 0 - ROUTER 1 with its PORT 5 OUTSIDE - HOST 2; both HOSTS are KNOWN. */
    private static InternetHouse outside() {
        InternetHouse x = Wire.chain(148);
        x.set(1, 11, 1, 0, 0);
        Wire.known(x, 4, A2, A1, 1);
        Wire.known(x, 5, B1, B2, 9);
        x.run(3);
        return x;
    }

    /** 1 if a PACKET that comes at PORT 4 is REWRITTEN, 0 if it goes as it is, -1 if not at all. */
    private static int rewritten(int protocol, int piece, int from, byte[] data) {
        InternetHouse x = outside();
        int sent = x.count(1, 0);
        Due.inject(x, 4, Due.packet(protocol, 9, 0, piece, from, B2, data));
        x.run(1);
        if (x.count(1, 0) == sent) {
            return -1;
        }
        return Wire.u32(Wire.sent(x, 5, 0), 13) == B1 ? 1 : 0;
    }

    private static byte[] gram(int port, int bytes) {
        return Wire.cut(Due.join(Due.bytes(port >> 8, port, 0, 5), new byte[20]), bytes);
    }

    private static void rewriting() {
        Due.sentence("A whole PACKET (PIECE without MORE, PLACE 0) of PROTOCOL 6, 17 with 4 bytes of DATA or more, or CONTROL ECHO with 8 (port: its first NUMBER) that goes by the OUTSIDE PORT, with a FROM not in its NET");
        for (int protocol : new int[] {6, 17}) {
            Due.is("3 bytes", 0, () -> rewritten(protocol, 0, A1, gram(9, 3)));
            Due.is("4 bytes", 1, () -> rewritten(protocol, 0, A1, gram(9, 4)));
            Due.is("MORE", 0, () -> rewritten(protocol, 128, A1, gram(9, 8)));
            Due.is("PLACE 1", 0, () -> rewritten(protocol, 1, A1, gram(9, 8)));
            Due.is("WHOLE", 1, () -> rewritten(protocol, 64, A1, gram(9, 8)));
        }
        Due.is("another PROTOCOL", 0, () -> rewritten(99, 0, A1, gram(9, 8)));
        byte[] echo = Due.control(8, 0, 9, 0, new byte[0]);
        Due.is("ECHO with 7", 0, () -> rewritten(1, 0, A1, Wire.cut(echo, 7)));
        Due.is("ECHO with 8", 1, () -> rewritten(1, 0, A1, echo));
        Due.is("ANSWER", 0, () -> rewritten(1, 0, A1, Due.control(0, 0, 9, 0, new byte[0])));
        Due.is("UNREACHABLE", 0, () -> rewritten(1, 0, A1, Due.control(3, 0, 9, 0, new byte[0])));
        Due.is("a FROM in its NET", -1, () -> rewritten(17, 0, Due.a(10, 0, 1, 255), gram(9, 8)) == 0 ? -1 : 5);
        Due.is("a FROM before its NET", 1, () -> rewritten(17, 0, Due.a(10, 0, 0, 255), gram(9, 8)));
        Due.is("a FROM behind its NET", 1, () -> rewritten(17, 0, Due.a(10, 0, 2, 0), gram(9, 8)));
        Due.sentence("At most 8 PAIRS: PROTOCOL, an inner ADDRESS and port, an outer port 40000 to 40007, a time; those more than 50 UNITS old are gone.");
        Due.sentence("gets the PAIR of its PROTOCOL, FROM and port (a new one with the least outer port that this PROTOCOL does not use; if there is none it is dropped)");
        InternetHouse x = outside();
        for (int i = 0; i < 8; i++) {
            Due.inject(x, 4, Due.packet(17, 9, 0, 0, A1, B2, gram(100 + i, 8)));
            int k = i;
            Due.is("outer port", 40000 + k, () -> x.look(1, 11, k, 3));
        }
        Due.inject(x, 4, Due.packet(17, 9, 0, 0, A1, B2, gram(200, 8)));
        Due.is("a ninth is dropped", 8, () -> Wire.rows(x, 1, 11));
        Due.is("not those that were not REWRITTEN", 8, () -> x.count(1, 8));
        Due.inject(x, 4, Due.packet(6, 9, 0, 0, A1, B2, gram(100, 8)));
        Due.is("a ninth of another PROTOCOL, too", 8, () -> x.count(1, 8));
        Due.inject(x, 4, Due.packet(17, 9, 0, 0, A1, B2, gram(103, 8)));
        Due.is("one that has a PAIR goes", 9, () -> x.count(1, 8));
        x.run(20);
        Due.inject(x, 4, Due.packet(17, 9, 0, 0, A1, B2, gram(102, 8)));
        Due.is("TIME", 23, () -> x.look(1, 11, 2, 4));
        x.run(30);
        Due.is("50 UNITS", 8, () -> Wire.rows(x, 1, 11));
        Due.inject(x, 4, Due.packet(17, 9, 0, 0, A1, B2, gram(100, 8)));
        x.run(1);
        Due.is("51 UNITS", 2, () -> Wire.rows(x, 1, 11));
        Due.inject(x, 4, Due.packet(17, 9, 0, 0, A1, B2, gram(300, 8)));
        Due.is("the least outer port that is free", 40001, () -> x.look(1, 11, 2, 3));
        Due.inject(x, 4, Due.packet(6, 9, 0, 0, A1, B2, gram(300, 8)));
        Due.is("the least of another PROTOCOL", 40000, () -> x.look(1, 11, 3, 3));
        Due.sentence("Back: a whole one of these (of CONTROL an ANSWER) that came in at the OUTSIDE PORT, TO its ADDRESS, with the outer port of a PAIR of its PROTOCOL as the port to which it goes: TO and that port become the inner ones.");
        InternetHouse y = outside();
        Due.inject(y, 4, Due.packet(17, 9, 0, 0, A1, B2, gram(100, 8)));
        Due.inject(y, 4, Due.packet(1, 9, 0, 0, A1, B2, Due.control(8, 0, 77, 0, new byte[0])));
        y.run(3);
        int sent = y.count(1, 0);
        byte[] back = Due.bytes(0, 5, 40000 >> 8, 40000, 0, 0, 0, 0);
        byte[] next = Due.bytes(0, 5, 40001 >> 8, 40001, 0, 0, 0, 0);
        Due.inject(y, 5, Due.packet(17, 9, 0, 0, B2, B1, Wire.cut(back, 3)));
        Due.inject(y, 5, Due.packet(17, 9, 0, 128, B2, B1, back));
        Due.inject(y, 5, Due.packet(17, 9, 0, 1, B2, B1, back));
        Due.inject(y, 5, Due.packet(6, 9, 0, 0, B2, B1, back));
        Due.inject(y, 5, Due.packet(17, 9, 0, 0, B2, B1, next));
        Due.inject(y, 4, Due.packet(17, 9, 0, 0, B2, B1, back));
        Due.inject(y, 5, Due.packet(1, 9, 0, 0, B2, B1, Due.control(8, 0, 40000, 0, new byte[0])));
        Due.is("none of these: nothing is passed", 2, () -> y.count(1, 8));
        Due.inject(y, 5, Due.packet(17, 9, 0, 0, B2, B1, Wire.cut(back, 4)));
        Due.is("4 bytes: passed", 3, () -> y.count(1, 8));
        Due.inject(y, 5, Due.packet(1, 9, 0, 0, B2, B1, Due.control(0, 0, 40000, 0, new byte[0])));
        Due.is("an ANSWER: passed", 4, () -> y.count(1, 8));
        Due.is("the PAIR of its PROTOCOL has its TIME", 6, () -> y.look(1, 11, 1, 4));
        y.run(10);
        Due.is("its NUMBER", 77, () -> y.look(0, 13, 0, 0));
        Due.is("more was sent", 1, () -> y.count(1, 0) > sent ? 1 : 0);
        Due.sentence("Both give the PAIR its TIME; SUMS are made anew (of DATA, too, as its PROTOCOL says; one that was wrong stays as it is).");
        Due.is("the other one was of 6", 6, () -> y.look(1, 11, 0, 4));
        y.run(20);
        Due.inject(y, 5, Due.packet(17, 9, 0, 0, B2, B1, back));
        Due.is("back", 36, () -> y.look(1, 11, 0, 4));
        Due.inject(y, 4, Due.packet(1, 9, 0, 0, A1, B2, Due.control(8, 0, 77, 0, new byte[0])));
        Due.is("there", 36, () -> y.look(1, 11, 1, 4));
        for (int bad = 0; bad < 2; bad++) {
            InternetHouse z = outside();
            byte[] d = Due.datagram(100, 5, Due.bytes(1, 2, 3));
            d[10] += bad;
            Due.inject(z, 4, Due.packet(17, 9, 0, 0, A1, B2, d));
            z.run(3);
            int want = bad;
            Due.is("SUM of DATA", want, () -> z.count(2, 4));
            Due.is("TAKEN", 1, () -> z.count(2, 9));
        }
        Due.sentence("11: OUTSIDE PORT a (-1: none): the PAIRS are gone.");
        Due.argument("-2", () -> y.set(1, 11, -2, 0, 0));
        Due.argument("4", () -> y.set(1, 11, 4, 0, 0));
        Due.is("the same again", 1, () -> y.set(1, 11, 1, 0, 0));
        Due.is("gone", 0, () -> Wire.rows(y, 1, 11));
        Due.is("3", 1, () -> y.set(1, 11, 3, 0, 0));
        Due.is("-1", 1, () -> y.set(1, 11, -1, 0, 0));
        Due.inject(y, 4, Due.packet(17, 9, 0, 0, A1, B2, gram(100, 8)));
        Due.is("none", 0, () -> Wire.rows(y, 1, 11));
    }

    /** HOST 0 - ROUTER 1, with TUNNEL 1 to 10.0.1.2 for 10.9.0.0 / 16 - HOST 2. */
    private static InternetHouse tunnel(int key) {
        InternetHouse x = Wire.chain(148);
        x.set(1, 12, 1, B2, key);
        x.route(1, Due.a(10, 9, 0, 0), 16, 1, 1);
        Wire.known(x, 5, B1, B2, 9);
        x.run(2);
        return x;
    }

    private static byte[] hidden(int key, int number, byte[] packet) {
        byte[] d = Due.join(Wire.half(number), packet);
        int sum = Due.sum(d);
        long c = (65536L * key + number) & 0xFFFFFFFFL;
        for (int i = 2; i < d.length; i++) {
            c = (1664525L * c + 1013904223L) & 0xFFFFFFFFL;
            d[i] ^= (byte) (c >>> 24);
        }
        return Due.join(d, Wire.half(sum));
    }

    private static void tunnels() {
        Due.sentence("If that would be longer than 148 it is dropped (counted as WRONG; no NUMBER is used).");
        int[][] cases = {{0, 130, 148}, {0, 131, 0}, {7, 126, 148}, {7, 127, 0}};
        for (int[] c : cases) {
            InternetHouse x = tunnel(c[0]);
            Due.inject(x, 4, Due.packet(99, 9, 0, 0, A1, Due.a(10, 9, 0, 1), new byte[c[1] - 18]));
            x.run(1);
            String what = "KEY " + c[0] + ", " + c[1] + " bytes";
            Due.is(what + ": WRONG", c[2] == 0 ? 1 : 0, () -> x.count(1, 4));
            Due.is(what + ": LENGTH", c[2] == 0 ? 0 : 148, () -> x.seen(5, 0, 2) == 3 ? x.seen(5, 0, 5) : 0);
            Due.is(what + ": had a WAY", 1, () -> x.count(1, 8));
            Due.inject(x, 4, Due.packet(99, 9, 0, 0, A1, Due.a(10, 9, 0, 1), new byte[0]));
            x.run(1);
            if (c[0] != 0) {
                Due.is(what + ": the next NUMBER", c[2] == 0 ? 1 : 2, () -> Wire.u16(Wire.data(x, 5, 0), 0));
            }
        }
        Due.sentence("NUMBER (2 bytes: 1 more with each, from 1), then the PACKET's bytes, each xor a byte of the KEY's ROW: x is 65536 KEY + NUMBER; for each byte x becomes 1664525 x + 1013904223 (32 bits), the byte its highest one; then 2 bytes, THE SUM of NUMBER and the bytes before they were changed.");
        for (int key : new int[] {1, 32767, 32768, 65535}) {
            InternetHouse x = tunnel(key);
            byte[] p = Due.packet(99, 9, 0, 0, A1, Due.a(10, 9, 0, 1), Due.bytes(1, 2, 255));
            Due.inject(x, 4, p);
            x.run(1);
            byte[] want = hidden(key, 1, Due.packet(99, 8, 0, 0, A1, Due.a(10, 9, 0, 1), Due.bytes(1, 2, 255)));
            Due.is("KEY " + key, 1, () -> java.util.Arrays.equals(want, Wire.data(x, 5, 0)) ? 1 : 0);
        }
        Due.sentence("a FAR ADDRESS and a KEY (0 to 65535).");
        Due.sentence("12: TUNNEL a (0, 1) with FAR b (0: none) and KEY c.");
        InternetHouse s = tunnel(0);
        Due.argument("TUNNEL -1", () -> s.set(1, 12, -1, B2, 0));
        Due.argument("TUNNEL 2", () -> s.set(1, 12, 2, B2, 0));
        Due.argument("KEY -1", () -> s.set(1, 12, 0, B2, -1));
        Due.argument("KEY 65536", () -> s.set(1, 12, 0, B2, 65536));
        Due.argument("FAR ALL", () -> s.set(1, 12, 0, -1, 0));
        Due.argument("FAR a GROUP", () -> s.set(1, 12, 0, Wire.GROUP, 0));
        Due.is("KEY 65535", 1, () -> s.set(1, 12, 0, B2, 65535));
        Due.is("none", 1, () -> s.set(1, 12, 1, 0, 0));
        Due.is("no WAY", -1, () -> s.way(1, 0, Due.a(10, 9, 0, 1)));
        Due.sentence("of 50, if THE SUM is right, and NUMBER is above the greatest that came (0 at first), or that, or less than 16 below it, and did not come; others are WRONG.");
        InternetHouse x = tunnel(9);
        byte[] in = Due.packet(99, 9, 0, 0, 5, A2, new byte[3]);
        // NUMBER, and whether what is in it comes in.
        int[][] numbers = {{0, 1}, {0, 0}, {5, 1}, {5, 0}, {0, 0}, {1, 1}, {4, 1}, {4, 0}, {20, 1}, {5, 0}, {4, 0}, {6, 1}, {19, 1}, {19, 0},
            {7, 1}, {22, 1}, {7, 0}, {8, 1}, {37, 1}, {22, 0}, {21, 0}, {23, 1}, {1000, 1}, {985, 1}, {984, 0}, {983, 0}, {65535, 1}, {65520, 1},
            {65519, 0}, {65535, 0}, {1, 0}};
        for (int[] n : numbers) {
            int taken = x.count(1, 9);
            int wrong = x.count(1, 4);
            Due.inject(x, 5, Due.packet(50, 9, 0, 0, B2, B1, hidden(9, n[0], in)));
            Due.is("NUMBER " + n[0], taken + 1 + n[1], () -> x.count(1, 9));
            Due.is("NUMBER " + n[0] + ": WRONG", wrong + 1 - n[1], () -> x.count(1, 4));
        }
        InternetHouse y = tunnel(9);
        byte[] bad = hidden(9, 30, in);
        bad[bad.length - 1] ^= 1;
        Due.inject(y, 5, Due.packet(50, 9, 0, 0, B2, B1, bad));
        Due.inject(y, 5, Due.packet(50, 9, 0, 0, B2, B1, hidden(8, 30, in)));
        for (int n = 0; n < 4; n++) {
            Due.inject(y, 5, Due.packet(50, 9, 0, 0, B2, B1, new byte[n]));
        }
        Due.is("SUM, another KEY, too short", 6, () -> y.count(1, 4));
        Due.inject(y, 5, Due.packet(50, 9, 0, 0, B2, B1, hidden(9, 30, Wire.cut(in, 17))));
        Due.is("a WRONG PACKET in it", 7, () -> y.count(1, 4));
        Due.inject(y, 5, Due.packet(50, 9, 0, 0, B2, B1, hidden(9, 1, in)));
        Due.is("30 came, though what was in it was WRONG", 8, () -> y.count(1, 4));
        Due.inject(y, 5, Due.packet(50, 9, 0, 0, B2, B1, hidden(9, 15, in)));
        Due.is("15 below 30", 8, () -> y.count(1, 4));
        Due.sentence("TAKEN at a ROUTER with a TUNNEL whose FAR is FROM (4: KEY 0, the least such; 50: another KEY): what is in it comes in (from no PORT);");
        InternetHouse z = tunnel(0);
        Due.inject(z, 5, Due.packet(4, 9, 0, 0, B2, B1, in));
        Due.is("from FAR", 2, () -> z.count(1, 9));
        Due.inject(z, 5, Due.packet(4, 9, 0, 0, B2 + 1, B1, in));
        Due.is("from another", 3, () -> z.count(1, 9));
        Due.inject(z, 5, Due.packet(50, 9, 0, 0, B2, B1, hidden(9, 1, in)));
        Due.is("50 with KEY 0", 4, () -> z.count(1, 9));
        Due.is("not WRONG", 0, () -> z.count(1, 4));
        Due.inject(z, 8, Due.packet(4, 9, 0, 0, B1, B2, Due.packet(99, 9, 0, 0, 5, B2, new byte[3])));
        Due.is("at a HOST", 1, () -> z.count(2, 9));
        z.set(1, 12, 0, B2, 9);
        Due.inject(z, 5, Due.packet(50, 9, 0, 0, B2, B1, hidden(9, 1, in)));
        Due.inject(z, 5, Due.packet(4, 9, 0, 0, B2, B1, in));
        Due.is("one of each", 8, () -> z.count(1, 9));
        z.set(1, 12, 1, B2, 8);
        Due.inject(z, 5, Due.packet(50, 9, 0, 0, B2, B1, hidden(9, 2, in)));
        Due.inject(z, 5, Due.packet(50, 9, 0, 0, B2, B1, hidden(8, 3, in)));
        Due.is("the least of two", 11, () -> z.count(1, 9));
        Due.is("the other KEY is WRONG", 1, () -> z.count(1, 4));
    }

    private static void groups() {
        Due.sentence("A HOST or ROUTER may be in GROUPS (at most 4).");
        InternetHouse x = Wire.chain(148);
        x.node(1);
        for (int n = 0; n < 2; n++) {
            for (int g = 0; g < 4; g++) {
                int k = g;
                int node = n;
                Due.is("GROUP " + k, 1, () -> x.set(node, 16, Wire.GROUP + k, 1, 0));
            }
            int node = n;
            Due.state("a fifth", () -> x.set(node, 16, Wire.GROUP + 4, 1, 0));
            Due.is("one that it is in", 1, () -> x.set(node, 16, Wire.GROUP + 3, 1, 0));
            Due.is("not in one that it is not in", 1, () -> x.set(node, 16, Wire.GROUP + 9, 0, 0));
            Due.is("not in one", 1, () -> x.set(node, 16, Wire.GROUP, 0, 0));
            Due.is("room for one", 1, () -> x.set(node, 16, Wire.GROUP + 4, 1, 0));
            Due.argument("b -1", () -> x.set(node, 16, Wire.GROUP, -1, 0));
            Due.argument("b 2", () -> x.set(node, 16, Wire.GROUP, 2, 0));
            Due.argument("no GROUP", () -> x.set(node, 16, A1, 1, 0));
        }
        Due.argument("numbers before the BRIDGE", () -> x.set(3, 16, A1, 1, 0));
        Due.state("a BRIDGE", () -> x.set(3, 16, Wire.GROUP, 1, 0));
        Due.sentence("At CLOCK, if TIME is divisible by 6, it sends for each, on each PORT with an ADDRESS and a whole LINE, a REPORT (PROTOCOL 2, DATA: 1 and the GROUP, TO that GROUP, FROM the PORT's ADDRESS, HOPS 1).");
        InternetHouse y = Wire.chain(148);
        y.set(1, 16, Wire.GROUP, 1, 0);
        y.address(6, Due.a(10, 0, 5, 1), 24);
        y.quality(0, 6, 1);
        y.run(5);
        Due.is("5", 0, () -> y.count(1, 0));
        y.run(1);
        Due.is("6, on one PORT", 1, () -> y.count(1, 0));
        Due.is("one NAME", 1, () -> y.look(1, 15, 0, 6));
        byte[] want = Due.frame(255, 6, 3, Due.packet(2, 1, 0, 0, B1, Wire.GROUP, Due.join(Due.bytes(1), Due.word(Wire.GROUP))));
        Due.is("REPORT", 1, () -> java.util.Arrays.equals(want, Wire.sent(y, 5, 0)) ? 1 : 0);
        y.run(6);
        Due.is("12", 12, () -> y.seen(5, 0, -2));
        Due.sentence("A ROUTER keeps MEMBERS: PORT, GROUP, time, at most 12 (more are not kept), till the CLOCK that finds them more than 14 UNITS old.");
        InternetHouse z = Wire.chain(148);
        z.run(2);
        for (int i = 0; i < 13; i++) {
            report(z, 4 + i % 2, Wire.GROUP + i, 5);
            int n = Math.min(12, i + 1);
            Due.is("at most 12", n, () -> Wire.rows(z, 1, 12));
        }
        z.run(5);
        report(z, 4, Wire.GROUP, 5);
        Due.is("one that is there gets its time", 7, () -> z.look(1, 12, 0, 2));
        z.run(9);
        Due.is("14 UNITS", 12, () -> Wire.rows(z, 1, 12));
        z.run(1);
        Due.is("15 UNITS", 1, () -> Wire.rows(z, 1, 12));
        z.run(4);
        Due.is("14 UNITS", 1, () -> Wire.rows(z, 1, 12));
        z.run(1);
        Due.is("15 UNITS", 0, () -> Wire.rows(z, 1, 12));
        Due.sentence("One of PROTOCOL 2 is that alone: a REPORT of 5 bytes or more, of a GROUP, at a ROUTER from a PORT.)");
        report(z, 4, Wire.GROUP, 4);
        Due.is("4 bytes", 0, () -> Wire.rows(z, 1, 12));
        report(z, 4, Due.a(223, 255, 255, 255), 5);
        report(z, 4, Due.a(225, 0, 0, 0), 5);
        report(z, 4, -1, 5);
        Due.is("no GROUP", 0, () -> Wire.rows(z, 1, 12));
        report(z, 0, Wire.GROUP, 5);
        Due.is("at a HOST", 0, () -> Wire.rows(z, 0, 12));
        report(z, 4, Wire.GROUP, 6);
        Due.is("6 bytes", 1, () -> Wire.rows(z, 1, 12));
        z.set(1, 16, Wire.GROUP, 1, 0);
        int taken = z.count(1, 9);
        report(z, 4, Wire.GROUP, 5);
        Due.is("not TAKEN", taken, () -> z.count(1, 9));
        Due.sentence("with HOPS above 1, is PASSED on, if THE WAY to its FROM (with FROM 0 for s) goes by that PORT: with HOPS 1 less, by each other PORT with an ADDRESS and a whole LINE and MEMBERS of it, or a NEIGHBOUR of LINK; REPORTS are never passed.");
        for (int hops = 0; hops < 4; hops++) {
            InternetHouse u = Wire.chain(148);
            report(u, 5, Wire.GROUP, 5);
            Due.inject(u, 4, Due.packet(99, hops, 0, 0, A1, Wire.GROUP, new byte[1]));
            u.run(1);
            int n = hops < 2 ? 0 : 1;
            int h = hops;
            Due.is("HOPS " + hops, n, () -> u.count(1, 0));
            if (hops > 1) {
                Due.is("1 less", h - 1, () -> u.seen(5, 0, 6));
            }
        }
        InternetHouse u = Wire.chain(148);
        report(u, 4, Wire.GROUP, 5);
        Due.inject(u, 4, Due.packet(99, 9, 0, 0, A1, Wire.GROUP, new byte[1]));
        Due.inject(u, 5, Due.packet(99, 9, 0, 0, A1, Wire.GROUP, new byte[1]));
        report(u, 5, Wire.GROUP, 5);
        Due.inject(u, 4, Due.packet(99, 9, 0, 0, Due.a(99, 0, 0, 1), Wire.GROUP, new byte[1]));
        Due.inject(u, 4, Due.packet(99, 9, 0, 0, A1, Wire.GROUP + 1, new byte[1]));
        Due.inject(u, 4, Due.packet(2, 9, 0, 0, A1, Wire.GROUP, new byte[1]));
        u.run(3);
        Due.is("not back; not from elsewhere; no WAY; another GROUP; a REPORT", 0, () -> u.count(1, 0));
        Due.inject(u, 4, Due.packet(99, 9, 0, 0, A1, Wire.GROUP, new byte[1]));
        u.run(1);
        Due.is("as it must be", 1, () -> u.count(1, 0));
    }

    private static void report(InternetHouse x, int port, int group, int bytes) {
        byte[] d = Wire.cut(Due.join(Due.bytes(1), Due.word(group)), bytes);
        Due.inject(x, port, Due.packet(2, 1, 0, 0, Due.a(9, 9, 9, 9), Wire.GROUP + 77, d));
    }

    public static void main(String[] args) {
        rules();
        flows();
        texts();
        rewriting();
        tunnels();
        groups();
        Due.end("BoundsGuardTest");
    }
}
