/** Boundary cases of LEASES and NAMES, and of promises 26 and 27. */
public final class BoundsNamesTest {
    private static final int A1 = Wire.A1;
    private static final int A2 = Wire.A2;
    private static final int A3 = Wire.A3;

    private static int lent(int i) {
        return Due.a(10, 0, 0, 50 + i);
    }

    /** HOST 0 that LENDS many ADDRESSES at PORT 0; the HOST at the other end is down. */
    private static InternetHouse lender(int many, int life) {
        InternetHouse x = Wire.pair(0);
        x.set(1, 0, 0, 0, 0);
        x.set(0, 13, 0, lent(0), 1000 * many + life);
        return x;
    }

    private static byte[] want(int client) {
        return Wire.lease(1, client, 1, 0, 0, 0, 0, 0);
    }

    private static byte[] take(int client, int i) {
        return Wire.lease(3, client, 1, lent(i), 0, 0, A1, 0);
    }

    /** The ADDRESS OFFERED for a WANT, less the first; -1: none. */
    private static int offered(InternetHouse x, int client) {
        int sent = x.count(0, 0);
        Due.inject(x, 0, want(client));
        x.run(1);
        return x.count(0, 0) == sent ? -1 : Wire.u32(Wire.data(x, 0, 0), 4) - lent(0);
    }

    private static void lending() {
        Due.sentence("A PORT with an ADDRESS may LEND: FROM an ADDRESS on, many (1 to 16; in its NET), with a LIFE (10 to 500), GATE its own ADDRESS.");
        Due.sentence("13: PORT a LENDS from ADDRESS b on c / 1000 (0: none) for c modulo 1000 UNITS; what was LENT before is gone.");
        InternetHouse x = Wire.pair(0);
        Due.argument("PORT -1", () -> x.set(0, 13, -1, lent(0), 1010));
        Due.argument("PORT 4", () -> x.set(0, 13, 4, lent(0), 1010));
        Due.argument("LIFE 9", () -> x.set(0, 13, 0, lent(0), 1009));
        Due.argument("LIFE 0", () -> x.set(0, 13, 0, lent(0), 1000));
        Due.argument("LIFE 501", () -> x.set(0, 13, 0, lent(0), 1501));
        Due.argument("LIFE 999", () -> x.set(0, 13, 0, lent(0), 16999));
        Due.argument("17", () -> x.set(0, 13, 0, lent(0), 17010));
        Due.is("LIFE 10", 1, () -> x.set(0, 13, 0, lent(0), 1010));
        Due.is("LIFE 500, 16", 1, () -> x.set(0, 13, 0, lent(0), 16500));
        Due.sentence("13 (but for none): the PORT has no ADDRESS, or BORROWS, or not all are in its NET, or its own is among them; 14: it has one, or LENDS.");
        Due.is("the last 16 of its NET", 1, () -> x.set(0, 13, 0, Due.a(10, 0, 0, 240), 16010));
        Due.state("one beyond its NET", () -> x.set(0, 13, 0, Due.a(10, 0, 0, 241), 16010));
        Due.is("the first of its NET", 1, () -> x.set(0, 13, 0, Due.a(10, 0, 0, 0), 1010));
        Due.state("one before its NET", () -> x.set(0, 13, 0, Due.a(9, 255, 255, 255), 1010));
        Due.state("its own is the last", () -> x.set(0, 13, 0, Due.a(10, 0, 0, 0), 2010));
        Due.state("its own is the first", () -> x.set(0, 13, 0, A1, 1010));
        Due.is("behind its own", 1, () -> x.set(0, 13, 0, A2, 1010));
        Due.state("LENDS", () -> x.set(0, 14, 0, 1, 0));
        Due.state("no ADDRESS", () -> x.set(0, 13, 1, lent(0), 1010));
        Due.is("no ADDRESS, none", 1, () -> x.set(0, 13, 1, lent(0), 0));
        Due.is("none with a LIFE of 999", 1, () -> x.set(0, 13, 1, lent(0), 999));
        x.set(0, 14, 1, 1, 0);
        Due.state("BORROWS", () -> x.set(0, 13, 1, lent(0), 1010));
        Due.is("BORROWS, none", 1, () -> x.set(0, 13, 1, lent(0), 0));
        Due.argument("14: PORT -1", () -> x.set(0, 14, -1, 1, 0));
        Due.argument("14: PORT 4", () -> x.set(0, 14, 4, 1, 0));
        Due.argument("14: b 2", () -> x.set(0, 14, 2, 2, 0));
        Due.argument("14: b -1", () -> x.set(0, 14, 2, -1, 0));
        Due.sentence("A PORT of a HOST without ADDRESS may BORROW.");
        Due.state("14: it has one", () -> x.set(1, 14, 0, 1, 0));
        Due.is("14: not, and it did not", 1, () -> x.set(0, 14, 2, 0, 0));
        Due.sentence("DATA (19 bytes, others are nothing): TYPE, CLIENT (its PORT, 0 to 47)");
        InternetHouse y = lender(16, 100);
        y.run(1);
        byte[] w = Wire.cut(Due.join(Due.bytes(1, 9, 0, 1), new byte[20]), 24);
        for (int n : new int[] {0, 1, 18, 20}) {
            Due.inject(y, 0, Due.packet(67, 1, 0, 0, 0, -1, Wire.cut(w, n)));
        }
        Due.inject(y, 0, want(48));
        Due.inject(y, 0, want(255));
        Due.inject(y, 0, Wire.lease(0, 9, 1, 0, 0, 0, 0, 0));
        y.run(2);
        Due.is("nothing", 0, () -> y.count(0, 0));
        Due.is("19 bytes, CLIENT 0", 0, () -> offered(y, 0));
        Due.is("CLIENT 47", 1, () -> offered(y, 47));
        Due.is("TO its LINK ADDRESS", 48, () -> y.seen(0, 0, 0));
        Due.sentence("WANT at a PORT that LENDS: the least ADDRESS that CLIENT had last (or has), else the least that nobody has, either not OFFERED to another 20 UNITS ago or less: OFFER (2: ADDRESS, BITS, LIFE, SERVER and GATE its own ADDRESS); nothing without one.");
        InternetHouse z = lender(2, 30);
        Due.is("the least", 0, () -> offered(z, 5));
        Due.is("OFFERED to another", 1, () -> offered(z, 6));
        Due.is("none", -1, () -> offered(z, 7));
        Due.is("OFFERED to itself", 0, () -> offered(z, 5));
        z.run(17);
        Due.is("20 UNITS after the first WANT of 6: OFFERED at 1", -1, () -> offered(z, 7));
        Due.is("21 UNITS", 1, () -> offered(z, 7));
        z.run(4);
        Due.inject(z, 0, take(5, 1));
        z.run(1);
        Due.is("it has the second", 1, () -> offered(z, 5));
        z.run(2);
        Due.is("the first is OFFERED to nobody", 0, () -> offered(z, 7));
        Due.sentence("if it LENDS that ADDRESS and nobody else has it: CLIENT has it (it is OFFERED to nobody then) for LIFE UNITS, and no other one: GIVEN (4, as OFFER), else NO (5, with ADDRESS and SERVER).");
        InternetHouse u = lender(2, 10);
        Due.inject(u, 0, take(5, 0));
        Due.is("has it till", 10, () -> u.look(0, 8, 0, 3));
        Due.inject(u, 0, take(6, 0));
        Due.inject(u, 0, take(6, -1));
        Due.inject(u, 0, take(6, 2));
        Due.is("another's, one before, one behind", 1, () -> Wire.rows(u, 0, 8));
        u.run(4);
        Due.is("3 times NO", 5, () -> Wire.data(u, 0, 0)[0] + Wire.data(u, 0, 1)[0] + Wire.data(u, 0, 2)[0] - 10);
        Due.is("the first was GIVEN", 4, () -> Wire.data(u, 0, 3)[0]);
        u.run(5);
        Due.is("9 UNITS", 1, () -> Wire.rows(u, 0, 8));
        Due.inject(u, 0, take(6, 0));
        Due.is("not yet", 5, () -> u.look(0, 8, 0, 2));
        u.run(1);
        Due.is("10 UNITS", 0, () -> Wire.rows(u, 0, 8));
        Due.inject(u, 0, take(6, 0));
        Due.is("nobody has it", 6, () -> u.look(0, 8, 0, 2));
        Due.inject(u, 0, take(6, 1));
        Due.is("no other one", 1, () -> Wire.rows(u, 0, 8));
        Due.is("the second", lent(1), () -> u.look(0, 8, 0, 1));
        Due.sentence("TAKE: for another SERVER: what was OFFERED to CLIENT is free; nothing more;");
        InternetHouse v = lender(1, 10);
        Due.is("OFFERED", 0, () -> offered(v, 5));
        Due.inject(v, 0, Wire.lease(3, 5, 1, lent(0), 0, 0, A1 + 1, 0));
        Due.is("nobody has it", 0, () -> Wire.rows(v, 0, 8));
        Due.is("it is free", 0, () -> offered(v, 6));
        v.set(0, 13, 0, 0, 0);
        Due.is("LENDS no more", -1, () -> offered(v, 6));
    }

    /** HOST 0 whose PORT 1 BORROWS, with its NUMBER from the first WANT at 1; nobody LENDS there. */
    private static InternetHouse borrower() {
        InternetHouse x = Wire.pair(0);
        x.node(0);
        x.line(1, 8, 1, 255, 148);
        x.set(2, 0, 0, 0, 0);
        x.set(0, 14, 1, 1, 0);
        x.run(1);
        return x;
    }

    private static int id(InternetHouse x) {
        return Wire.u16(Wire.data(x, 1, 0), 2);
    }

    private static final int B = Due.a(10, 0, 7, 7);

    private static InternetHouse has(int life) {
        InternetHouse x = borrower();
        int id = id(x);
        Due.inject(x, 1, Wire.lease(2, 1, id, B, 24, life, A2, B + 1));
        Due.inject(x, 1, Wire.lease(4, 1, id, B, 24, life, A2, B + 1));
        Due.is("HAS", B, () -> x.look(0, 1, 1, 1));
        x.run(1);
        return x;
    }

    private static void borrowing() {
        Due.sentence("at its first CLOCK, then 12 UNITS since the latest: NUMBER (0 before) becomes a DRAW, WANT (1) is sent.");
        InternetHouse x = borrower();
        Due.is("at 1", 1, () -> x.count(0, 0));
        int first = id(x);
        Due.is("a DRAW", Wire.draw(0) >>> 16, () -> first);
        x.run(11);
        Due.is("11 UNITS", 1, () -> x.count(0, 0));
        x.run(1);
        Due.is("12 UNITS", 2, () -> x.count(0, 0));
        Due.is("the next DRAW", Wire.draw(Wire.draw(0)) >>> 16, () -> id(x));
        Due.sentence("OFFER with its CLIENT and NUMBER in WANTS: TAKE is sent (with ADDRESS, SERVER as told): TAKES.");
        Due.inject(x, 1, Wire.lease(2, 1, first, B, 24, 100, A2, B + 1));
        Due.inject(x, 1, Wire.lease(2, 0, id(x), B, 24, 100, A2, B + 1));
        Due.inject(x, 1, Wire.lease(2, 2, id(x), B, 24, 100, A2, B + 1));
        Due.inject(x, 0, Wire.lease(2, 1, id(x), B, 24, 100, A2, B + 1));
        Due.inject(x, 1, Wire.lease(4, 1, id(x), B, 24, 100, A2, B + 1));
        x.run(1);
        Due.is("another NUMBER, CLIENT, PORT; GIVEN", 2, () -> x.count(0, 0));
        Due.missing("no ADDRESS", () -> x.look(0, 1, 1, 1));
        Due.inject(x, 1, Wire.lease(2, 1, id(x), B, 24, 100, A2, B + 1));
        Due.inject(x, 1, Wire.lease(2, 1, id(x), B, 24, 100, A2, B + 1));
        x.run(2);
        Due.is("one TAKE", 3, () -> x.count(0, 0));
        Due.sentence("TAKES: 12 UNITS since TAKE was sent: it WANTS.");
        x.run(9);
        Due.is("11 UNITS", 3, () -> x.count(0, 0));
        x.run(1);
        Due.is("12 UNITS: a WANT", 4, () -> x.count(0, 0));
        Due.is("a WANT", 1, () -> Wire.data(x, 1, 0)[0]);
        Due.sentence("HAS: at its end the ADDRESS (with what it had FOUND, what WAITS), and the FIXED row that it gave, are gone, it WANTS; else half of LIFE (cut off) since it was GIVEN, and 12 UNITS since the latest such: TAKE (3) is sent with its ADDRESS and the SERVER of the OFFER.");
        // GIVEN at 1: LIFE, when TAKE is sent, when it is sent again (0: not), when it ends.
        int[][] lives = {{10, 6, 0, 11}, {11, 6, 0, 12}, {17, 9, 0, 18}, {25, 13, 25, 26}, {30, 16, 28, 31}, {31, 16, 28, 32}, {1, 0, 0, 2}, {0, 0, 0, 2}};
        for (int[] l : lives) {
            InternetHouse y = has(l[0]);
            int sent = 2;
            for (int t = 3; t <= l[3]; t++) {
                y.run(1);
                int now = t;
                sent += t == l[1] || t == l[2] ? 1 : 0;
                int want = sent + (t >= l[3] ? 1 : 0);
                Due.is("LIFE " + l[0] + " at " + now + ": sent", want, () -> y.count(0, 0));
                Due.is("LIFE " + l[0] + " at " + now + ": ADDRESSES", t < l[3] ? 2 : 1, () -> Wire.rows(y, 0, 1));
            }
            Due.is("LIFE " + l[0] + ": gone", 1, () -> Wire.rows(y, 0, 1));
            Due.is("its FIXED row, too", 0, () -> y.route(0, 0, 0, 5, -1));
            y.run(2);
            Due.is("a WANT", 1, () -> Wire.data(y, 1, 0)[0]);
        }
        Due.sentence("GIVEN with its CLIENT and NUMBER in TAKES or HAS (BITS 1 to 31, ADDRESS not 0, ALL or a GROUP, and of no other PORT of the NODE, else nothing)");
        InternetHouse z = borrower();
        int id = id(z);
        Due.inject(z, 1, Wire.lease(2, 1, id, B, 24, 100, A2, B + 1));
        int[][] wrong = {{B, 0}, {B, 32}, {B, 255}, {0, 24}, {-1, 24}, {Wire.GROUP, 24}, {A1, 24}};
        for (int[] g : wrong) {
            Due.inject(z, 1, Wire.lease(4, 1, id, g[0], g[1], 100, A2, B + 1));
        }
        Due.inject(z, 1, Wire.lease(4, 1, id + 1, B, 24, 100, A2, B + 1));
        Due.inject(z, 1, Wire.lease(4, 0, id, B, 24, 100, A2, B + 1));
        Due.is("nothing", 1, () -> Wire.rows(z, 0, 1));
        for (int bits : new int[] {1, 31}) {
            Due.inject(z, 1, Wire.lease(4, 1, id, B, bits, 100, A2, B + 1));
            Due.is("BITS", bits, () -> z.look(0, 1, 1, 2));
        }
        Due.inject(z, 1, Wire.lease(4, 1, id, A1 + 100, 24, 100, A2, B + 1));
        Due.is("in the NET of another PORT", A1 + 100, () -> z.look(0, 1, 1, 1));
        Due.sentence("a FIXED row 0 / 0 by GATE, COST 1 (the former one goes; if there is room), till LIFE UNITS from now: HAS. NO likewise: as at its end.");
        Due.is("one row", 1, () -> z.route(0, 0, 0, 5, -1));
        for (int i = 0; i < 7; i++) {
            z.route(0, Due.a(99, 0, 0, 0), 8, A2, 1);
        }
        Due.state("8 rows with it", () -> z.route(0, 0, 0, A2, 1));
        Due.inject(z, 1, Wire.lease(4, 1, id, B, 24, 100, A2, B + 2));
        Due.is("the former one goes first", 256L * (B + 2) + 1, () -> z.way(0, 0, 77));
        Due.inject(z, 1, Wire.lease(5, 1, id, B, 0, 0, A2, 0));
        Due.is("NO", 1, () -> Wire.rows(z, 0, 1));
        Due.is("its row is gone", 7, () -> z.route(0, 0, 0, 5, -1));
        z.route(0, Due.a(99, 0, 0, 0), 8, A2, 1);
        z.run(2);
        int next = id(z);
        Due.inject(z, 1, Wire.lease(5, 1, next, B, 0, 0, A2, 0));
        Due.inject(z, 1, Wire.lease(2, 1, next, B, 24, 100, A2, B + 1));
        Due.inject(z, 1, Wire.lease(4, 1, next, B, 24, 100, A2, B + 1));
        Due.is("no room for a row: HAS all the same", B, () -> z.look(0, 1, 1, 1));
        Due.is("8 rows", 8, () -> z.route(0, 0, 0, 5, -1));
        Due.is("no WAY", -1, () -> z.way(0, 0, 77));
        Due.is("one that BORROWS already stays as it is", 1, () -> z.set(0, 14, 1, 1, 0));
        Due.is("it stays", B, () -> z.look(0, 1, 1, 1));
        Due.is("not", 1, () -> z.set(0, 14, 1, 0, 0));
        Due.is("what it had is gone", 1, () -> Wire.rows(z, 0, 1));
    }

    private static void names() {
        Due.sentence("a NAME: 1 to 4 LABELS (1 to 8 letters a to z, digits, -) with dots between, the last one the highest; \".\" is the ROOT, above all.");
        Due.sentence("IllegalArgumentException: kind, or it is no NAME (the TAPE stays).");
        String[] right = {".", "a", "z", "0", "9", "-", "abcdefgh", "a.b.c.d", "abcdefgh.abcdefgh.abcdefgh.abcdefgh", "--.-9", "1.2.3.4"};
        String[] wrong = {"", "..", ".a", "a.", "a..b", "abcdefghi", "a.abcdefghi", "a.b.c.d.e", "A", "a b", "*", "*.a", "a_b", "a/b", "`", "{", "a\n",
            "\u00e9", ":", "a.b.c.d."};
        for (String s : right) {
            InternetHouse x = asker();
            Due.feed(x, s);
            Due.is("\"" + s + "\"", 0, () -> x.ask(0, 1));
            Due.argument("the TAPE is empty", () -> x.end(1));
        }
        InternetHouse x = asker();
        for (String s : wrong) {
            Due.feed(x, s);
            Due.argument("\"" + s + "\"", () -> x.ask(0, 1));
            Due.is("the TAPE stays", s.length(), () -> Wire.tape(x));
        }
        Due.feed(x, "a");
        Due.missing("NODE 2", () -> x.ask(2, 1));
        Due.missing("NODE before kind", () -> x.ask(-1, 0));
        Due.argument("kind 0", () -> x.ask(0, 0));
        Due.argument("kind 5", () -> x.ask(0, 5));
        Due.sentence("IllegalStateException: it does not RESOLVE, is down, or 4 are under way.");
        x.node(1);
        Due.argument("kind before all", () -> x.ask(1, 5));
        Due.state("does not RESOLVE", () -> x.ask(1, 1));
        Due.state("a BRIDGE", () -> x.ask(2, 1));
        x.set(0, 0, 0, 0, 0);
        Due.state("down", () -> x.ask(0, 1));
        Due.is("the TAPE stays", 1, () -> Wire.tape(x));
        x.set(0, 0, 1, 0, 0);
        Due.sentence("The TAPE, empty then, is a NAME for which NODE n is TO ASK with a KIND (1 to 4): the number of the QUESTION (0 to 3, the least that is not under way; what it was answered before is gone).");
        for (int i = 0; i < 4; i++) {
            Due.feed(x, "a" + i);
            int want = i;
            Due.is("QUESTION", want, () -> x.ask(0, 1));
        }
        Due.feed(x, "a");
        Due.state("4 are under way", () -> x.ask(0, 1));
        Due.is("the TAPE stays", 1, () -> Wire.tape(x));
        Due.feed(x, "a..");
        Due.argument("no NAME before that", () -> x.ask(0, 1));
        int c = Wire.draw(Wire.draw(Wire.draw(0)));
        Due.inject(x, 0, Wire.reply(A2, A1, c >>> 16, 0, Wire.row(1, 100, "a2", 77)));
        Due.is("the third is answered", 0, () -> x.answer(0, 2, 0));
        Due.sentence("OUT becomes VALUE i of the answer to QUESTION q of a NODE (4 bytes, or the NAME): its CODE 0; else 1, 2, or 3 for FAILED (OUT is empty); -1 it is under way, -2 none was asked, -3 CODE 0 and there is no VALUE i (OUT stays). NoSuchElementException: also a BRIDGE.");
        Due.missing("NODE 3", () -> x.answer(3, 0, 0));
        Due.missing("NODE -1", () -> x.answer(-1, 0, 0));
        Due.missing("QUESTION -1", () -> x.answer(0, -1, 0));
        Due.missing("QUESTION 4", () -> x.answer(0, 4, 0));
        Due.missing("a BRIDGE", () -> x.answer(2, 0, 0));
        Due.is("under way", -1, () -> x.answer(0, 1, 0));
        Due.is("none was asked", -2, () -> x.answer(1, 0, 0));
        Due.is("VALUE 1", -3, () -> x.answer(0, 2, 1));
        Due.is("VALUE -1", -3, () -> x.answer(0, 2, -1));
        Due.is("greatest", -3, () -> x.answer(0, 2, Integer.MAX_VALUE));
        Due.outIs("OUT stays", x, "\0\0\0M");
        Due.feed(x, "b");
        Due.is("the least that is not under way", 2, () -> x.ask(0, 1));
        Due.is("what it was answered before is gone", -1, () -> x.answer(0, 2, 0));
        Due.is("OUT stays", 4, () -> x.octet(-1));
        InternetHouse y = asker();
        Due.feed(y, "b");
        y.ask(0, 1);
        Due.inject(y, 0, Wire.reply(A2, A1, Wire.draw(0) >>> 16, 0, Wire.row(1, 100, "b", 7)));
        y.answer(0, 0, 0);
        Due.is("4 bytes", 4, () -> y.octet(-1));
        Due.feed(y, "c");
        y.ask(0, 1);
        Due.inject(y, 0, Wire.reply(A2, A1, Wire.draw(Wire.draw(0)) >>> 16, 1));
        Due.is("1", 1, () -> y.answer(0, 0, 5));
        Due.is("OUT is empty", 0, () -> y.octet(-1));
    }

    /** HOST 0 that RESOLVES by ROOT 10.0.0.2, where nobody answers. */
    private static InternetHouse asker() {
        InternetHouse x = Wire.pair(0);
        x.set(1, 0, 0, 0, 0);
        x.set(0, 15, A2, 0, 0);
        return x;
    }

    /** CODE, how many ROWS and the length of DATA that HOST 0 with ZONES answers; "" for nothing. */
    private static String told(String zones, byte[] question) {
        InternetHouse x = Wire.pair(0);
        x.set(1, 0, 0, 0, 0);
        Wire.known(x, 0, A1, A2, 5);
        x.run(2);
        if (!zones.isEmpty()) {
            Due.is("load", 1, () -> Wire.load(x, 0, 2, zones) >= 0 ? 1 : 0);
        }
        int sent = x.count(0, 0);
        Due.inject(x, 0, question);
        x.run(1);
        byte[] d = Wire.data(x, 0, 0);
        return x.count(0, 0) == sent ? "" : d[3] + " " + d[4] + " " + d.length;
    }

    private static String told(String zones, int kind, String name) {
        return told(zones, Wire.question(A2, A1, 5, kind, name));
    }

    private static void zones() {
        Due.sentence("A NODE (HOST, ROUTER) has at most 3 ZONES, with at most 24 ROWS together: a ZONE's NAME and LIFE; a ROW: NAME (the ZONE's, or one below it), KIND (1 ADDRESS, 2 SERVER, 3 ALIAS, 4 TEXT), LIFE (1 to 500), VALUE (an ADDRESS; a NAME; a NAME; a number 0 to 65535).");
        InternetHouse x = Wire.pair(0);
        Due.is("3 ZONES", 0, () -> Wire.load(x, 0, 2, "zone a 1\nzone b 1\nzone c 1"));
        Due.is("4 ZONES", -4, () -> Wire.load(x, 0, 2, "zone a 1\nzone b 1\nzone c 1\nzone d 1"));
        String rows = "a 1 text 5\n".repeat(12);
        Due.is("24 ROWS", 24, () -> Wire.load(x, 0, 2, "zone . 1\n" + rows + "zone a 1\n" + rows));
        Due.is("25 ROWS", -27, () -> Wire.load(x, 0, 2, "zone . 1\n" + rows + "zone a 1\n" + rows + "a 1 text 5"));
        Due.is("a ZONE behind 24 ROWS", 24, () -> Wire.load(x, 0, 2, "zone . 1\n" + rows + rows + "zone a 1\n"));
        Due.sentence("\"zone\" NAME N (its LIFE, 1 to 500; each NAME once), then its ROWS: NAME (whole; \"*\" for the ROOT's, or \"*.\" before one of at most 3 LABELS, which must be in the ZONE) N KIND VALUE, N the LIFE, 1 to 500, KIND being a (A), ns (NAME), alias (NAME), text (N to 65535).");
        String[] right = {"zone a 1", "zone a 500", "zone . 5", "zone a.b.c.d 5", "zone b 5\nb 1 text 0", "zone b 5\na.b 500 text 65535",
            "zone . 5\n* 5 text 1", "zone . 5\n*.a.b.c 5 text 1", "zone b 5\n*.b 5 text 1", "zone b 5\n*.a.b 5 a 255.255.255.255", "zone b 5\nb 5 ns .",
            "zone b 5\nb 5 alias a.b.c.d", "zone . 5\n. 5 a 0.0.0.0"};
        int[] many = {0, 0, 0, 0, 1, 1, 1, 1, 1, 1, 1, 1, 1};
        for (int i = 0; i < right.length; i++) {
            int k = i;
            Due.is(right[k], many[k], () -> Wire.load(x, 0, 2, right[k]));
        }
        String[] wrong = {"zone b 0", "zone b 501", "zone b", "zone b 5 5", "zone 5", "zone *.b 5", "zone a 5", "zone abcdefghi 5", "zone b.c.d.e.f 5",
            "a 0 text 5", "a 501 text 5", "a 5 text 65536", "a 5 text", "a 5 text -1", "a 5 a 1.2.3", "a 5 a 1.2.3.256", "a 5 b 1.2.3.4", "a 5 ns *.a",
            "a 5 ns", "a 5 alias a..b", "b 5 text 1", "*.b 5 text 1", "* 5 text 1", "*a 5 text 1", "*.*.a 5 text 1", "a.*.a 5 text 1", "*.x.y.z.a 5 text 1",
            "a 5 TEXT 1", "a 5 text 1 1", "a text 5 1"};
        for (String s : wrong) {
            Due.is(s, -2, () -> Wire.load(x, 0, 2, "zone a 5\n" + s + "\nno"));
        }
        zoneAsName(x);
        Due.is("each NAME once", -3, () -> Wire.load(x, 0, 2, "zone a 5\nzone b 5\nzone a 6"));
        Due.is("a ROW before its ZONE", -1, () -> Wire.load(x, 0, 2, "a 5 text 1\nzone a 5"));
        Due.is("a ROW of the ZONE before", -3, () -> Wire.load(x, 0, 2, "zone a 5\nzone b 5\na 5 text 1"));
        Due.sentence("At most 5 ROWS, as far as all of DATA is not above 130 bytes (others are left out).");
        String five = "zone . 9\n";
        for (int i = 0; i < 6; i++) {
            five += "a 5 text " + i + "\n";
        }
        String six = five;
        Due.said("5 of 6", told(six, 4, "a"), "0 5 50");
        String w17 = "aaaaaaaa.bbbbbbbb";
        String w18 = "a.aaaaaaa.bbbbbbbb";
        String all17 = "zone . 9\n" + (w17 + " 5 text 1\n").repeat(5);
        String all18 = "zone . 9\n" + (w18 + " 5 text 1\n").repeat(5);
        Due.said("5 + 5 * 25 are 130", told(all17, 4, w17), "0 5 130");
        Due.said("5 + 5 * 26 are 135", told(all18, 4, w18), "0 4 109");
        Due.sentence("A QUESTION with more or less than that is nothing, so is an ANSWER with a ROW that can't be, or less ROWS than told (what is behind them is not looked at). A QUESTION may be of any KIND.");
        byte[] q = Due.join(Due.bytes(0, 0, 5, 4), Wire.name("a"));
        for (int n : new int[] {1, 4, 5, 7}) {
            Due.said(n + " bytes", told(six, Due.packet(53, 9, 0, 0, A2, A1, Wire.cut(q, n))), "");
        }
        Due.said("6 bytes", told(six, Due.packet(53, 9, 0, 0, A2, A1, q)), "0 5 50");
        for (String s : new String[] {"", "A", "*", "a..b", "a.", "abcdefghi", "a.b.c.d.e"}) {
            Due.said("no NAME: " + s, told(six, 4, s), "");
        }
        for (int kind : new int[] {0, 1, 2, 3, 5, 10, 255}) {
            Due.said("KIND " + kind, told(six, kind, "a"), "2 1 11");
        }
        Due.said("no ZONES", told("", 4, "a"), "");
        Due.sentence("the ZONE of most LABELS with the NAME in it (itself or above): none: 4.");
        String two = "zone b 9\na.b 5 text 1\nzone a.b 8\na.b 5 text 1\na.b 5 text 2";
        Due.said("itself", told(two, 4, "a.b"), "0 2 27");
        Due.said("above", told(two, 4, "x.a.b"), "1 1 13");
        Due.said("of one LABEL", told(two, 4, "x.b"), "1 1 11");
        Due.said("none", told(two, 4, "x.c"), "4 0 5");
        Due.said("the ROOT is above", told(two, 4, "."), "4 0 5");
        Due.sentence("A CUT: a NAME below the ZONE's with a ROW of KIND 2; what is below it, and it, is not of the ZONE, but ADDRESSES there (GLUE).");
        Due.sentence("If a CUT is the NAME, or above it (the highest such): 3 with its ROWS of KIND 2 (as they stand), then for each of these the ADDRESSES of its VALUE that stand in the ZONE.");
        String cuts = "zone b 9\nb 5 ns n.b\nc.b 5 ns n.c.b\nd.c.b 5 ns m.b\nn.c.b 5 a 1.2.3.4\nn.c.b 5 a 1.2.3.5\ne.c.b 5 text 1\nm.b 5 a 1.2.3.6";
        Due.said("the NAME", told(cuts, 1, "c.b"), "3 3 44");
        Due.said("above it", told(cuts, 4, "e.c.b"), "3 3 44");
        Due.said("the highest", told(cuts, 4, "x.d.c.b"), "3 3 44");
        Due.said("GLUE itself is below the CUT", told(cuts, 1, "n.c.b"), "3 3 44");
        Due.said("the ZONE's own is none", told(cuts, 2, "b"), "0 1 14");
        Due.sentence("none, but an ALIAS (or several): 0 with all of these; else 2. None of that NAME: if there is one below it: 2; else those of \"*\" with the NAME's LABELS behind its first, likewise (told with the NAME asked for), if that has ROWS; else 1.");
        String stars = "zone . 9\na 5 alias b\na 5 alias c\n*.d 5 text 1\n*.f 5 alias b\nx.e.f 5 text 1\n* 5 a 1.2.3.4";
        Due.said("ALIASES", told(stars, 4, "a"), "0 2 19");
        Due.said("ALIASES as such", told(stars, 3, "a"), "0 2 19");
        Due.said("one below it", told(stars, 4, "d"), "2 1 11");
        Due.said("*", told(stars, 4, "y.d"), "0 1 16");
        Due.said("* of another KIND", told(stars, 1, "y.d"), "2 1 11");
        Due.said("* is an ALIAS", told(stars, 1, "y.f"), "0 1 14");
        Due.said("one below it, before *", told(stars, 1, "e.f"), "2 1 11");
        Due.said("* of one LABEL", told(stars, 1, "y"), "0 1 14");
        Due.said("* is for one LABEL alone", told(stars, 1, "y.z"), "1 1 11");
        Due.said("the ROOT has none of its own, but below", told(stars, 1, "."), "2 1 11");
        Due.said("the ROOT alone", told("zone . 9", 1, "."), "1 1 11");
    }

    /** A LINE of four WORDS is a ROW, whatever its first WORD is (issue 19). */
    private static void zoneAsName(InternetHouse x) {
        String[] kinds = {"a 1.2.3.4", "ns zone", "alias zone.zone", "text 65535"};
        for (String kind : kinds) {
            Due.is("zone 9 " + kind, 1, () -> Wire.load(x, 0, 2, "zone . 5\nzone 9 " + kind));
            Due.is("in the ZONE zone: " + kind, 2, () -> Wire.load(x, 0, 2, "zone zone 5\nzone 500 " + kind + "\na.zone 1 " + kind));
        }
        String[] wrong = {"zone 0 a 1.2.3.4", "zone 501 a 1.2.3.4", "zone b a 1.2.3.4", "zone 9 a 1.2.3", "zone 9 zone 1.2.3.4", "zone b 5 5",
            "zone 9", "zone", "zone 9 a", "zone 9 a 1.2.3.4 5", "zone 9 ns *.a"};
        for (String s : wrong) {
            Due.is("below the ROOT: " + s, -2, () -> Wire.load(x, 0, 2, "zone . 5\n" + s + "\nno"));
        }
        Due.is("not in the ZONE a", -2, () -> Wire.load(x, 0, 2, "zone a 5\nzone 9 a 1.2.3.4"));
        Due.is("before its ZONE", -1, () -> Wire.load(x, 0, 2, "zone 9 a 1.2.3.4\nzone . 5"));
        Due.is("three WORDS are a ZONE", 1, () -> Wire.load(x, 0, 2, "zone . 5\nzone zone 5\nzone 5 a 1.2.3.4"));
        Due.is("three WORDS, no ZONE", -2, () -> Wire.load(x, 0, 2, "zone . 5\nzonf a 5"));
        Due.said("it is told", told("zone . 5\nzone 9 a 1.2.3.4", 1, "zone"), "0 1 17");
    }

    private int chance;
    private InternetHouse x;

    private void begin() {
        x = asker();
        chance = 0;
    }

    private int ask(String name, int kind) {
        Due.feed(x, name);
        return x.ask(0, kind);
    }

    /** An ANSWER of the ROOT to the latest QUESTION but so many. */
    private void reply(int code, byte[]... rows) {
        chance = Wire.draw(chance);
        Due.inject(x, 0, Wire.reply(A2, A1, chance >>> 16, code, rows));
    }

    private void is(String what, int want) {
        Due.is(what, want, () -> x.answer(0, 0, 0));
    }

    private void asking() {
        Due.sentence("CODE (0 there are such; 1 no such NAME; 2 no such KIND; 3 ask further; 4 no ZONE; one with another CODE is nothing)");
        byte[] a = Wire.row(1, 9, "a", 7);
        int[] code = {0, 1, 2, 3, 4, 5, 255};
        int[] want = {0, 1, 2, 3, 3, -1, -1};
        for (int i = 0; i < 7; i++) {
            begin();
            ask("a", 1);
            reply(code[i], a);
            is("CODE " + code[i], want[i]);
        }
        Due.sentence("so is an ANSWER with a ROW that can't be, or less ROWS than told (what is behind them is not looked at).");
        byte[][] bad = {Wire.row(5, 9, "a", 7), Wire.row(255, 9, "a", 7), Wire.row(1, 9, "", 7), Wire.row(1, 9, "A", 7), Wire.row(1, 9, "a..b", 7),
            Wire.row(2, 9, "a", ""), Wire.row(3, 9, "a", "*.b"), Wire.row(1, 9, "*", 7), Wire.row(0, 9, "a", "b"), Wire.cut(a, a.length - 1),
            Wire.cut(a, 4), Wire.cut(a, 1), Wire.cut(Wire.row(2, 9, "a", "b"), 6)};
        for (int i = 0; i < bad.length; i++) {
            begin();
            ask("a", 1);
            chance = Wire.draw(chance);
            byte[] head = Due.join(Due.bytes(1), Wire.half(chance >>> 16), Due.bytes(0, 2));
            Due.inject(x, 0, Due.packet(53, 9, 0, 0, A2, A1, Due.join(head, a, bad[i])));
            is("ROW " + i, -1);
            Due.is("nothing is kept", 0, () -> Wire.rows(x, 0, 9));
            Due.inject(x, 0, Due.packet(53, 9, 0, 0, A2, A1, Due.join(Wire.cut(head, 4), Due.bytes(1), a, bad[i])));
            is("ROW " + i + " behind those told", 0);
        }
        begin();
        ask("a", 1);
        chance = Wire.draw(chance);
        for (int n = 1; n < 5; n++) {
            Due.inject(x, 0, Due.packet(53, 9, 0, 0, A2, A1, Wire.cut(Due.join(Due.bytes(1), Wire.half(chance >>> 16), Due.bytes(1, 0)), n)));
        }
        is("1 to 4 bytes", -1);
        Due.inject(x, 0, Due.packet(53, 9, 0, 0, A2, A1, Due.join(Due.bytes(1), Wire.half(chance >>> 16), Due.bytes(1, 0))));
        is("5 bytes", 1);
        Due.sentence("An ANSWER counts if FROM there with that NUMBER (else nothing; of several QUESTIONS that fit: for the first of 0 to 3)");
        begin();
        ask("a", 1);
        chance = Wire.draw(chance);
        Due.inject(x, 0, Wire.reply(A3, A1, chance >>> 16, 0, a));
        Due.inject(x, 0, Wire.reply(A2, A1, (chance >>> 16) + 1, 0, a));
        is("FROM elsewhere, another NUMBER", -1);
        Due.is("nothing is kept", 0, () -> Wire.rows(x, 0, 9));
        cache();
        aliases();
        repeats();
    }

    private void cache() {
        Due.sentence("a CACHE of at most 16 ROWS (KIND, NAME, VALUE, till when; KIND 0: that the NAME, or for KINDS above 10 that the KIND less 10 of it, is not) and at most 4 QUESTIONS under way.");
        Due.sentence("(those of the same KIND, NAME and VALUE go before; with 16 that with the least till when, of these the first, goes)");
        begin();
        byte[][] sixteen = new byte[16][];
        for (int i = 0; i < 16; i++) {
            sixteen[i] = Wire.row(1, i == 5 || i == 9 ? 40 : 50, "a", i);
        }
        ask("zz", 1);
        chance = Wire.draw(chance);
        int number = chance >>> 16;
        for (int i = 0; i < 16; i += 8) {
            if (i > 0) {
                chance = Wire.draw(chance);
                number = chance >>> 16;
            }
            Due.inject(x, 0, Wire.reply(A2, A1, number, 0, java.util.Arrays.copyOfRange(sixteen, i, i + 8)));
        }
        Due.is("16", 16, () -> Wire.rows(x, 0, 9));
        reply(0, Wire.row(1, 60, "a", 3));
        Due.is("the same: still 16", 16, () -> Wire.rows(x, 0, 9));
        Due.is("it is the last now", 3, () -> x.look(0, 9, 15, 1));
        Due.is("its till when", 60, () -> x.look(0, 9, 15, 2));
        reply(0, Wire.row(1, 1, "a", 100));
        Due.is("the first of the least till when went", 4, () -> x.look(0, 9, 3, 1));
        Due.is("the first of the least till when went", 6, () -> x.look(0, 9, 4, 1));
        reply(0, Wire.row(1, 50, "a", 101));
        Due.is("1 is the least: it went", 101, () -> x.look(0, 9, 15, 1));
        Due.is("9 stays", 9, () -> x.look(0, 9, 7, 1));
        Due.sentence("what is in the CACHE counts (as long as TIME is below its till when, TIME + LIFE).");
        for (int life = 1; life < 500; life += 249) {
            begin();
            ask("a", 1);
            reply(0, Wire.row(1, life, "a", 7));
            is("answered", 0);
            Wire.runs(x, life - 1);
            ask("a", 1);
            is(life - 1 + " UNITS", 0);
            x.run(1);
            ask("a", 1);
            is(life + " UNITS", -1);
        }
        begin();
        ask("a", 1);
        reply(0, Wire.row(1, 0, "a", 7));
        is("LIFE 0: it is asked again", -1);
        Due.sentence("it is answered so (and kept as \"no\" for the LIFE of the ROW of KIND 0, the last one, if that is above 0);");
        int[][] no = {{1, 0, 0}, {1, 1, 1}, {2, 0, 0}, {2, 1, 1}, {1, 500, 1}};
        for (int[] n : no) {
            begin();
            ask("a", 1);
            reply(n[0], Wire.noRow(77, "."), Wire.noRow(n[1], "."));
            is("CODE " + n[0], n[0]);
            Due.is("LIFE " + n[1], n[2], () -> Wire.rows(x, 0, 9));
            if (n[2] == 1) {
                Due.is("KIND", n[0] == 1 ? 0 : 11, () -> x.look(0, 9, 0, 0));
                Due.is("till when", n[1], () -> x.look(0, 9, 0, 2));
            }
        }
        begin();
        ask("a", 1);
        reply(1);
        is("no ROW of KIND 0", 1);
        Due.is("is not kept", 0, () -> Wire.rows(x, 0, 9));
        begin();
        ask("a", 1);
        reply(2, Wire.noRow(50, "."));
        ask("a", 1);
        is("no such KIND: kept", 2);
        ask("a", 4);
        is("another KIND is asked", -1);
        Due.sentence("but only such whose NAME is in the ZONE that was asked (the NAME whose SERVERS were asked; of the ROOT: all), but none of KIND 0.");
        begin();
        ask("x.b", 1);
        reply(3, Wire.row(2, 50, "b", "n"), Wire.row(1, 50, "n", A3), Wire.noRow(50, "b"));
        Due.is("of the ROOT: all but KIND 0", 2, () -> Wire.rows(x, 0, 9));
        chance = Wire.draw(chance);
        Due.inject(x, 0, Wire.reply(A3, A1, chance >>> 16, 0, Wire.row(1, 50, "y.b", 1), Wire.row(1, 50, "b", 2), Wire.row(1, 50, "c", 3),
            Wire.row(1, 50, "b.c", 4), Wire.row(1, 50, "n", 5)));
        Due.is("y.b and b alone", 4, () -> Wire.rows(x, 0, 9));
        Due.sentence("4, or 3 without a ROW of KIND 2 whose NAME is in that ZONE, another one, and the NAME asked for or above it: FAILED; else the STEPS.");
        String[] name = {"x.b", "b", ".", "y.x.b", "c", "x.c"};
        int[] goes = {-1, -1, 3, 3, 3, 3};
        for (int i = 0; i < name.length; i++) {
            begin();
            ask("x.b", 1);
            reply(3, Wire.row(2, 50, name[i], "n"));
            is("3 with " + name[i], goes[i]);
        }
        begin();
        ask("x.b", 1);
        reply(3, Wire.row(1, 50, "b", 5));
        is("3 with KIND 1", 3);
    }

    private void aliases() {
        Due.sentence("An ALIAS of it there (the first): the NAME is its VALUE from then on (with the 6th: FAILED), from the beginning.");
        for (int many = 5; many < 7; many++) {
            begin();
            ask("a0", 1);
            byte[][] rows = new byte[many + 1][];
            for (int i = 0; i < many; i++) {
                rows[i] = Wire.row(3, 50, "a" + i, "a" + (i + 1));
            }
            rows[many] = Wire.row(1, 50, "a" + many, 7);
            reply(0, rows);
            is(many + " ALIASES", many == 5 ? 0 : 3);
        }
        begin();
        ask("a", 3);
        reply(0, Wire.row(3, 50, "a", "a"));
        is("KIND 3 itself", 0);
        ask("a", 1);
        is("an ALIAS of itself", 3);
        begin();
        ask("a", 1);
        reply(0, Wire.row(3, 50, "a", "b"), Wire.row(3, 50, "a", "c"), Wire.row(1, 50, "c", 7));
        is("the first: b is asked", -1);
    }

    private void repeats() {
        Due.sentence("asked 15 UNITS ago or more: the QUESTION is sent there again (a new NUMBER); instead of the 4th repeat since STEPS asked there: FAILED.");
        begin();
        Wire.known(x, 0, A1, A2, 5);
        x.run(2);
        ask("a", 1);
        int sent = x.count(0, 0);
        int[] at = {15, 30, 45};
        int now = 0;
        x.run(1);
        Due.is("the first", sent + 1, () -> x.count(0, 0));
        now = 1;
        for (int i = 0; i < 3; i++) {
            x.run(at[i] - now - 1);
            int k = i;
            Due.is(at[k] - 1 + " UNITS", sent + 1 + k, () -> x.count(0, 0));
            x.run(1);
            Due.is(at[k] + " UNITS", sent + 2 + k, () -> x.count(0, 0));
            now = at[i];
        }
        int c = 0;
        for (int i = 0; i < 4; i++) {
            c = Wire.draw(c);
        }
        int number = c >>> 16;
        Due.is("a new NUMBER", number, () -> Wire.u16(Wire.data(x, 0, 0), 1));
        x.run(14);
        is("59 UNITS", -1);
        x.run(1);
        is("60 UNITS", 3);
        Due.is("no 4th repeat", sent + 4, () -> x.count(0, 0));
        Due.sentence("Instead of the 13th QUESTION that is sent in all it is FAILED.");
        begin();
        ask("a", 1);
        for (int i = 1; i <= 12; i++) {
            is("QUESTION " + i, -1);
            reply(0, Wire.row(1, 50, "b", i));
        }
        is("the 13th", 3);
        Due.is("12 ANSWERS", 12, () -> Wire.rows(x, 0, 9));
        begin();
        ask("a", 1);
        for (int i = 1; i <= 11; i++) {
            reply(0, Wire.row(1, 50, "b", i));
        }
        reply(0, Wire.row(1, 50, "a", 5));
        is("the 12th is answered", 0);
        Due.sentence("15: it RESOLVES by ROOT a (0: not any more, and the CACHE and QUESTIONS are gone; else they stay).");
        Due.is("another ROOT", 1, () -> x.set(0, 15, A3, 0, 0));
        is("it stays", 0);
        Due.is("the CACHE stays", 12, () -> Wire.rows(x, 0, 9));
        Due.is("0", 1, () -> x.set(0, 15, 0, 0, 0));
        is("gone", -2);
        Due.is("gone", 0, () -> Wire.rows(x, 0, 9));
        Due.argument("ALL", () -> x.set(0, 15, -1, 0, 0));
        Due.argument("a GROUP", () -> x.set(0, 15, Wire.GROUP, 0, 0));
    }

    public static void main(String[] args) {
        lending();
        borrowing();
        names();
        zones();
        new BoundsNamesTest().asking();
        Due.end("BoundsNamesTest");
    }
}
