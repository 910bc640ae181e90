/** Promises 10, 11 (POLICY), 28, 29: WAYS that are FOUND by DISTANCE, LINK, OUTER. */
public final class WaysTest {
    private static int net(int i) {
        return Due.a(10, 0, i, 0);
    }

    /** ROUTERS in a row: LINE i joins PORT 0 of i (ADDRESS .1) with PORT 1 of i + 1 (.2), NET 10.0.i.0. */
    private static InternetHouse row(int n, boolean ring) {
        InternetHouse x = new InternetHouse();
        for (int i = 0; i < n; i++) {
            x.node(2);
        }
        for (int i = 0; i < (ring ? n : n - 1); i++) {
            int j = (i + 1) % n;
            x.line(4 * i, 4 * j + 1, 1, 255, 148);
            x.address(4 * i, net(i) + 1, 24);
            x.address(4 * j + 1, net(i) + 2, 24);
        }
        return x;
    }

    private static void runs(InternetHouse x, int units) {
        for (int i = 0; i < units; i += 10) {
            x.run(10);
        }
    }

    private static void settings() {
        InternetHouse x = row(2, false);
        x.node(0);
        x.node(1);
        Due.missing("NODE", () -> x.set(4, 0, 1, 0, 0));
        Due.argument("what", () -> x.set(0, 17, 1, 0, 0));
        Due.argument("what", () -> x.set(0, -1, 1, 0, 0));
        Due.argument("up", () -> x.set(0, 0, 2, 0, 0));
        Due.argument("RANK", () -> x.set(0, 1, 256, 0, 0));
        Due.state("RANK of no BRIDGE", () -> x.set(0, 1, 5, 0, 0));
        Due.argument("COST", () -> x.set(3, 2, 0, 0, 0));
        Due.is("COST of a BRIDGE's PORT", 1, () -> x.set(3, 2, 0, 5, 0));
        for (int what = 5; what <= 12; what++) {
            int k = what;
            int a = k == 9 ? net(9) + 1 : k == 10 ? net(9) : 1;
            int b = k == 10 ? 24 : k == 12 ? net(9) + 1 : 1;
            Due.state("HOST " + k, () -> x.set(2, k, a, b, 1));
            Due.state("BRIDGE " + k, () -> x.set(3, k, a, b, 1));
            Due.is("ROUTER " + k, 1, () -> x.set(0, k, a, b, 1));
        }
        Due.argument("ON", () -> x.set(0, 5, 2, 0, 0));
        Due.argument("ON", () -> x.set(2, 6, -1, 0, 0));
        Due.argument("AREA", () -> x.set(0, 7, 0, 4, 0));
        Due.argument("SYSTEM", () -> x.set(0, 8, 65536, 0, 0));
        Due.argument("PEER", () -> x.set(0, 9, 0, 5, 0));
        Due.argument("PEER", () -> x.set(0, 9, -1, 5, 0));
        Due.argument("PEER's SYSTEM", () -> x.set(0, 9, 5, 65536, 0));
        Due.argument("NET", () -> x.set(0, 10, net(1) + 1, 24, 1));
        Due.argument("NET", () -> x.set(0, 10, net(1), 24, 2));
        for (int i = 0; i < 3; i++) {
            x.set(0, 9, 100 + i, 7, 0);
        }
        Due.state("4 PEERS", () -> x.set(0, 9, 200, 7, 0));
        Due.is("anew", 1, () -> x.set(0, 9, 100, 8, 0));
        Due.is("SYSTEM", 8, () -> x.look(0, 6, 1, 1));
        Due.is("gone", 1, () -> x.set(0, 9, 100, 0, 0));
        Due.is("next one", 101, () -> x.look(0, 6, 1, 0));
        Due.missing("3 PEERS", () -> x.look(0, 6, 3, 0));
        for (int i = 0; i < 5; i++) {
            x.set(0, 10, net(20 + i), 24, 1);
        }
        Due.state("6 NETS", () -> x.set(0, 10, net(30), 24, 1));
        Due.is("is own already", 1, () -> x.set(0, 10, net(20), 24, 1));
        Due.is("DISTANCE is ON", 1, () -> x.look(0, 15, 0, 1));
        Due.is("LINK is ON", 1, () -> x.look(0, 15, 0, 2));
        Due.is("SYSTEM", 1, () -> x.look(0, 15, 0, 3));
        Due.is("UP", 1, () -> x.look(2, 15, 0, 0));
        Due.missing("one ROW", () -> x.look(2, 15, 1, 0));
        Due.missing("8 numbers", () -> x.look(2, 15, 0, 8));
        Due.missing("number", () -> x.look(2, 15, 0, -1));
        Due.argument("what", () -> x.look(2, 16, 0, 0));
        Due.argument("what before BRIDGE", () -> x.look(3, -1, 0, 0));
        Due.state("BRIDGE", () -> x.look(3, 15, 0, 0));
        Due.missing("NODE", () -> x.look(4, 15, 0, 0));
        Due.argument("what", () -> x.map(4, 0, 0));
        Due.missing("NODE", () -> x.map(0, 4, 0));
        Due.missing("BRIDGE", () -> x.map(0, 3, 0));
        Due.missing("NODE", () -> x.map(1, 0, 4));
        Due.is("none such", -1, () -> x.map(1, 0, 2));
    }

    private static void distance() {
        InternetHouse x = row(4, false);
        for (int i = 0; i < 4; i++) {
            x.set(i, 5, 1, 0, 0);
        }
        runs(x, 30);
        Due.is("first", net(1), () -> x.look(0, 2, 0, 0));
        Due.is("BITS", 24, () -> x.look(0, 2, 0, 1));
        Due.is("COST", 2, () -> x.look(0, 2, 0, 2));
        Due.is("NEXT", net(0) + 2, () -> x.look(0, 2, 0, 3));
        Due.is("PORT", 0, () -> x.look(0, 2, 0, 4));
        Due.is("COST", 3, () -> x.look(0, 2, 1, 2));
        Due.missing("two ROWS", () -> x.look(0, 2, 2, 0));
        Due.is("way", 256L * (net(0) + 2), () -> x.way(0, 0, net(2) + 2));
        Due.is("3 LINES", 3, () -> x.map(0, 0, net(2) + 2));
        Due.is("0 LINES", 0, () -> x.map(0, 0, net(0) + 1));
        Due.is("nobody", -1, () -> x.map(0, 0, net(2) + 3));
        x.quality(2, 6, 1);
        runs(x, 20);
        Due.is("not told any more, but known", 3, () -> x.look(0, 2, 1, 2));
        runs(x, 20);
        Due.is("COST 16", 16, () -> x.look(0, 2, 1, 2));
        Due.is("no WAY", -1, () -> x.way(0, 0, net(2) + 2));
        runs(x, 30);
        Due.missing("gone", () -> x.look(0, 2, 1, 2));
        Due.inject(x, 0, Due.packet(9, 1, 0, 0, net(0) + 2, -1, Due.join(Due.word(net(7)), Due.bytes(24, 15), Due.word(net(8)), Due.bytes(24, 14))));
        Due.is("15 and 1 more is nothing", net(8), () -> x.look(0, 2, 1, 0));
        Due.is("COST 15", 15, () -> x.look(0, 2, 1, 2));
        Due.inject(x, 0, Due.packet(9, 1, 0, 0, net(0) + 9, -1, Due.join(Due.word(net(8)), Due.bytes(24, 14))));
        Due.is("not less: stays", net(0) + 2, () -> x.look(0, 2, 1, 3));
        Due.inject(x, 0, Due.packet(9, 1, 0, 0, net(0) + 9, -1, Due.join(Due.word(net(8)), Due.bytes(24, 5))));
        Due.is("less: changed", net(0) + 9, () -> x.look(0, 2, 1, 3));
        Due.is("COST 6", 6, () -> x.look(0, 2, 1, 2));
        Due.inject(x, 0, Due.packet(9, 1, 0, 0, net(0) + 9, -1, Due.join(Due.word(net(9) + 1), Due.bytes(24, 5))));
        Due.inject(x, 0, Due.packet(9, 1, 0, 0, net(0) + 9, -1, Due.join(Due.word(net(9)), Due.bytes(24))));
        Due.inject(x, 0, Due.packet(9, 1, 0, 0, net(5) + 9, -1, Due.join(Due.word(net(9)), Due.bytes(24, 1))));
        Due.inject(x, 0, Due.packet(9, 1, 0, 0, net(0) + 1, -1, Due.join(Due.word(net(9)), Due.bytes(24, 1))));
        Due.missing("none of these is right", () -> x.look(0, 2, 2, 0));
        x.set(0, 5, 1, 0, 0);
        Due.missing("what it had is gone", () -> x.look(0, 2, 0, 0));
    }

    private static void link() {
        InternetHouse x = row(5, true);
        for (int i = 0; i < 5; i++) {
            x.set(i, 6, 1, 0, 0);
        }
        Due.is("nothing differs yet", 1, () -> x.map(2, 0, 0));
        x.run(5);
        Due.is("differs", 0, () -> x.map(2, 0, 0));
        runs(x, 40);
        Due.is("all the same", 1, () -> x.map(2, 0, 0));
        Due.is("D", 20, () -> x.map(1, 0, 2));
        Due.is("D to itself", 0, () -> x.map(1, 3, 3));
        Due.is("NEIGHBOUR: PORT", 0, () -> x.look(0, 4, 0, 0));
        Due.is("ID", 1, () -> x.look(0, 4, 0, 1));
        Due.is("ADDRESS", net(0) + 2, () -> x.look(0, 4, 0, 2));
        Due.is("HEARS", 1, () -> x.look(0, 4, 0, 3));
        Due.is("ID", 4, () -> x.look(0, 4, 1, 1));
        Due.is("BOOK: AREA", 0, () -> x.look(0, 3, 4, 0));
        Due.is("ID", 4, () -> x.look(0, 3, 4, 1));
        Due.is("LINKS", 2, () -> x.look(0, 3, 4, 3));
        Due.is("NETS", 2, () -> x.look(0, 3, 4, 4));
        Due.missing("5 ROWS", () -> x.look(0, 3, 5, 0));
        Due.is("WAY of KIND 2: NET", net(1), () -> x.look(0, 5, 1, 0));
        Due.is("COST", 20, () -> x.look(0, 5, 1, 2));
        Due.is("NEXT", net(0) + 2, () -> x.look(0, 5, 1, 3));
        Due.is("NET in the midst by both", net(2), () -> x.look(0, 5, 3, 0));
        Due.is("NEXT, without a sign", net(4) + 1, () -> x.look(0, 5, 3, 3));
        Due.is("PORT", 1, () -> x.look(0, 5, 3, 4));
        long number = x.look(0, 3, 0, 2);
        x.set(0, 2, 0, 50, 0);
        runs(x, 20);
        Due.is("own ROW has a NUMBER of 1 more", number + 1, () -> x.look(2, 3, 0, 2));
        Due.is("D by the cheaper way", 40, () -> x.map(1, 0, 1));
        Due.is("COST there", 50, () -> {
            long c = -1;
            for (int i = 0; i < 8; i++) {
                if (x.look(0, 5, i, 0) == net(0)) {
                    c = x.look(0, 5, i, 2);
                    break;
                }
            }
            return c;
        });
        x.set(1, 0, 0, 0, 0);
        runs(x, 20);
        Due.is("NEIGHBOUR went", 4, () -> x.look(0, 4, 0, 1));
        Due.is("no D to one that is down", -1, () -> x.map(1, 0, 1));
        x.set(0, 6, 0, 0, 0);
        Due.missing("BOOKS are gone", () -> x.look(0, 3, 0, 0));
    }

    private static void areas() {
        // 0 -area 1- 1 -area 0- 2 -area 2- 3
        InternetHouse x = row(4, false);
        int[][] area = {{0, 0, 1}, {1, 1, 1}, {2, 0, 2}, {3, 1, 2}};
        for (int i = 0; i < 4; i++) {
            x.set(i, 6, 1, 0, 0);
        }
        for (int[] a : area) {
            x.set(a[0], 7, a[1], a[2], 0);
        }
        runs(x, 60);
        Due.is("same BOOKS", 1, () -> x.map(2, 0, 0));
        Due.is("way over three AREAS", 3, () -> x.map(0, 0, net(2) + 2));
        // 0: own 10; 1 tells NET 2 into AREA 1 with COST 10 (to 2) + 10 (2's own PORT) = 20; so 10 + 0 + 20.
        Due.is("NET 2 at NODE 0", net(2), () -> x.look(0, 5, 2, 0));
        Due.is("COST", 30, () -> x.look(0, 5, 2, 2));
        Due.is("AREA 0 is not in the BOOK of a ROUTER of AREA 1", 1, () -> x.look(0, 3, 0, 0));
        Due.is("an AREA's ROUTERS alone", 1, () -> x.look(0, 3, 1, 1));
        Due.missing("two ROWS", () -> x.look(0, 3, 2, 0));
        Due.is("NETS: its own, and two of AREA 0", 3, () -> x.look(0, 3, 1, 4));
        Due.is("D over AREAS", 30, () -> x.map(1, 0, 3));
        x.set(1, 7, 1, 3, 0);
        Due.missing("BOOK of AREA 1 is gone", () -> {
            for (int i = 0;; i++) {
                if (x.look(1, 3, i, 0) == 1) {
                    return i;
                }
            }
        });
        Due.is("connected no more", -1, () -> x.map(1, 0, 1));
    }

    private static void outer() {
        // SYSTEMS 100, 200, 300 in a row, and an INNER PEER of the last one.
        InternetHouse x = row(4, false);
        int[] system = {100, 200, 300, 300};
        for (int i = 0; i < 4; i++) {
            x.set(i, 8, system[i], 0, 0);
        }
        for (int i = 0; i < 3; i++) {
            x.set(i, 9, net(i) + 2, system[i + 1], 0);
            x.set(i + 1, 9, net(i) + 1, system[i], 0);
        }
        x.route(3, net(1), 24, net(2) + 1, 5);
        x.set(0, 10, Due.a(77, 0, 0, 0), 8, 1);
        runs(x, 60);
        Due.is("UP", 2, () -> x.look(0, 6, 0, 2));
        Due.is("TOLD", 1, () -> x.look(0, 6, 0, 4));
        Due.is("HEARD", 1, () -> x.look(1, 6, 0, 3));
        Due.is("CHOSEN", Due.a(77, 0, 0, 0), () -> x.look(2, 7, 0, 0));
        Due.is("BITS", 8, () -> x.look(2, 7, 0, 1));
        Due.is("NEXT", net(1) + 1, () -> x.look(2, 7, 0, 2));
        Due.is("DEGREE", 100, () -> x.look(2, 7, 0, 3));
        Due.is("2 SYSTEMS", 2, () -> x.look(2, 7, 0, 4));
        Due.is("the first", 200, () -> x.look(2, 7, 0, 5));
        Due.is("INNER: as it is", 2, () -> x.look(3, 7, 0, 4));
        Due.is("NEXT as it is", net(1) + 1, () -> x.look(3, 7, 0, 2));
        Due.is("WAY of KIND 4", 256L * (net(2) + 1) + 13, () -> x.way(3, 0, Due.a(77, 1, 2, 3)));
        Due.is("3 LINES", -1, () -> x.map(0, 3, Due.a(77, 1, 2, 3)));
        Due.is("nothing was told back", 0, () -> x.look(1, 6, 0, 4));
        Due.feed(x, "in peer 0 net 77.0.0.0/8 8 8 has 100 accept degree 150 med 9 tag 7\nin refuse");
        Due.is("POLICY", 2, () -> x.load(2, 1));
        Due.feed(x, "out first 200 last 200 go prepend 2\nout mark 5 refuse");
        x.load(1, 1);
        x.set(1, 10, Due.a(78, 0, 0, 0), 8, 1);
        x.set(0, 10, Due.a(77, 0, 0, 0), 8, 0);
        runs(x, 30);
        Due.missing("TAKEN BACK, the other one REFUSED", () -> x.look(2, 7, 0, 0));
        x.set(0, 10, Due.a(77, 0, 0, 0), 8, 1);
        runs(x, 30);
        Due.is("DEGREE", 150, () -> x.look(2, 7, 0, 3));
        Due.is("MED", 9, () -> x.look(2, 7, 0, 6));
        Due.is("MARK", 7, () -> x.look(2, 7, 0, 7));
        x.load(2, 1);
        x.set(2, 9, net(1) + 1, 200, 0);
        runs(x, 60);
        Due.is("its own SYSTEM twice more", 3, () -> x.look(2, 7, 1, 4));
        Due.is("of NET 78", Due.a(78, 0, 0, 0), () -> x.look(2, 7, 1, 0));
        x.quality(0, 6, 1);
        runs(x, 30);
        Due.is("25 UNITS: IDLE or ASKED", 1, () -> x.look(1, 6, 0, 2) < 2 ? 1 : 0);
        Due.is("what was HEARD is gone", 0, () -> x.look(1, 6, 0, 3));
        x.set(1, 8, 0, 0, 0);
        Due.is("IDLE", 0, () -> x.look(1, 6, 1, 2));
    }

    /** Two SYSTEMS; what the second one tells the first is HEARD again whenever their PEERS are UP anew. */
    private static void upAnew() {
        InternetHouse x = row(2, false);
        int far = Due.a(77, 0, 0, 0);
        x.set(0, 8, 100, 0, 0);
        x.set(1, 8, 200, 0, 0);
        x.set(0, 9, net(0) + 2, 200, 0);
        x.set(1, 9, net(0) + 1, 100, 0);
        x.set(1, 10, far, 8, 1);
        runs(x, 30);
        heardOnce("at first", x, far);
        x.set(1, 9, net(0) + 1, 100, 0);
        Due.is("not gone before an OPEN comes", 1, () -> x.look(0, 6, 0, 3));
        runs(x, 30);
        heardOnce("a PEER made anew", x, far);
        x.set(1, 0, 0, 0, 0);
        x.set(1, 0, 1, 0, 0);
        runs(x, 30);
        heardOnce("a NODE that was down", x, far);
        x.set(1, 8, 200, 0, 0);
        runs(x, 30);
        heardOnce("a SYSTEM that was set", x, far);
        x.set(0, 9, net(0) + 2, 200, 0);
        Due.is("gone with the PEER", 0, () -> x.look(0, 6, 0, 3));
        runs(x, 30);
        heardOnce("the other side's PEER made anew", x, far);
        x.quality(0, 6, 1);
        runs(x, 30);
        Due.is("gone with 25 UNITS", 0, () -> x.look(0, 6, 0, 3));
        x.quality(0, 6, 0);
        runs(x, 40);
        heardOnce("a LINE that was CUT", x, far);
        tell(x, 7, 5);
        Due.is("one more", 2, () -> x.look(0, 6, 0, 3));
        tell(x, 7, 6);
        Due.is("7 is the last one taken: nothing more", 2, () -> x.look(0, 6, 0, 3));
        for (int which = 0; which < 2; which++) {
            open(x, which);
            Due.is("an OPEN while UP: gone", 0, () -> x.look(0, 6, 0, 3));
            Due.is("UP anew", 2, () -> x.look(0, 6, 0, 2));
            tell(x, 7, 5);
            Due.is("7 is the last one taken no more", 1, () -> x.look(0, 6, 0, 3));
            tell(x, 7, 6);
            Due.is("now it is", 1, () -> x.look(0, 6, 0, 3));
            open(x, which);
            tell(x, 0, 5);
            Due.is("0 is so, as at first", 0, () -> x.look(0, 6, 0, 3));
            tell(x, 7, 5);
            Due.is("7 is not", 1, () -> x.look(0, 6, 0, 3));
        }
    }

    /** An OPEN of NODE 1 comes to NODE 0. */
    private static void open(InternetHouse x, int which) {
        byte[] data = Due.bytes(1, which, 0, 200, 1);
        Due.inject(x, 0, Due.packet(79, 9, 0, 0, net(0) + 2, net(0) + 1, data));
    }

    /** Of NODE 0: the PEER is UP, one NET was HEARD of it, and it has THE WAY to it. */
    private static void heardOnce(String what, InternetHouse x, int far) {
        Due.is(what + ": UP", 2, () -> x.look(0, 6, 0, 2));
        Due.is(what + ": HEARD", 1, () -> x.look(0, 6, 0, 3));
        Due.is(what + ": TOLD", 1, () -> x.look(1, 6, 0, 4));
        Due.is(what + ": THE WAY", 256L * (net(0) + 2), () -> x.way(0, 0, far + 1));
    }

    /** A TELL of NODE 1 with a NUMBER, of a NET, comes to NODE 0. */
    private static void tell(InternetHouse x, int number, int net) {
        byte[] data = Due.join(Due.bytes(3, 0, number, net, 0, 0, 0, 8), Due.word(net(0) + 2),
                Due.bytes(0, 0, 0, 0, 100, 0, 0, 1, 0, 200));
        Due.inject(x, 0, Due.packet(79, 9, 0, 0, net(0) + 2, net(0) + 1, data));
    }

    /** The NUMBERS are from 1 again when a PEER is UP anew, and THANKS for an old one do no harm. */
    private static void numbersAnew() {
        for (int which = 0; which < 2; which++) {
            InternetHouse x = row(2, false);
            x.set(0, 8, 100, 0, 0);
            x.set(1, 8, 200, 0, 0);
            x.set(0, 9, net(0) + 2, 200, 0);
            x.set(1, 9, net(0) + 1, 100, 0);
            runs(x, 30);
            x.set(0, 10, Due.a(77, 0, 0, 0), 8, 1);
            x.set(0, 10, Due.a(78, 0, 0, 0), 8, 1);
            numbers("at first", x, 1, 2);
            x.set(0, 10, Due.a(78, 0, 0, 0), 8, 0);
            numbers("TAKE BACK", x, 3);
            x.set(0, 10, Due.a(78, 0, 0, 0), 8, 1);
            numbers("the next", x, 4);
            open(x, which);
            numbers("UP anew by OPEN " + which, x, 1, 2);
            x.set(0, 10, Due.a(79, 0, 0, 0), 8, 1);
            numbers("then on", x, 3);
            x.set(0, 10, Due.a(80, 0, 0, 0), 8, 1);
            x.run(1);
            open(x, which);
            Due.inject(x, 0, Due.packet(79, 9, 0, 0, net(0) + 2, net(0) + 1, Due.bytes(5, 0, 4)));
            Due.is("THANKS for an old one", 0, () -> x.look(0, 6, 0, 4));
            numbers("what was under way is gone", x, 1, 2, 3, 4);
            Due.is("TOLD", 4, () -> x.look(0, 6, 0, 4));
        }
    }

    /** What NODE 0 tells in 40 UNITS has these NUMBERS. */
    private static void numbers(String what, InternetHouse x, int... want) {
        StringBuilder got = new StringBuilder();
        for (int i = 0; i < 40; i++) {
            x.capture(0, 1);
            x.run(1);
            x.capture(0, 2);
            String out = Due.out(x);
            for (int at = 0; at < out.length(); at += 6 + out.charAt(at + 5)) {
                int data = at + 6 + 3 + 18;
                boolean mine = out.charAt(at + 4) == 0 && out.charAt(at + 8) == 3 && out.charAt(at + 10) == 79;
                if (mine && (out.charAt(data) == 3 || out.charAt(data) == 4)) {
                    got.append(out.charAt(data + 1) * 256 + out.charAt(data + 2)).append(' ');
                }
            }
        }
        StringBuilder due = new StringBuilder();
        for (int n : want) {
            due.append(n).append(' ');
        }
        Due.said("NUMBERS, " + what, got.toString(), due.toString());
    }

    /** Four SYSTEMS in a ring (their OPENS don't cross): all learn the shortest ways. */
    private static void ring() {
        InternetHouse x = new InternetHouse();
        for (int i = 0; i < 10; i++) {
            x.node(2);
        }
        for (int i = 0; i < 4; i++) {
            int a = 3 * i;
            int b = 3 * ((i + 1) % 4);
            x.set(a, 8, 100 + a, 0, 0);
            x.set(a, 10, Due.a(50 + a, 0, 0, 0), 8, 1);
            x.line(4 * a, 4 * b + 1, 1 + i % 2, 255, 148);
            x.address(4 * a, net(i) + 1, 24);
            x.address(4 * b + 1, net(i) + 2, 24);
            x.set(a, 9, net(i) + 2, 100 + b, 0);
            x.set(b, 9, net(i) + 1, 100 + a, 0);
        }
        runs(x, 100);
        int[] far = {0, 1, 2, 1};
        for (int i = 0; i < 4; i++) {
            for (int k = 0; k < 4; k++) {
                int a = 3 * i;
                int row = k;
                Due.is("SYSTEMS from " + a + " to " + 3 * k, far[(i - k + 4) % 4], () -> x.look(a, 7, row, 4));
            }
        }
    }

    private static long policy(InternetHouse x, String text) {
        Due.feed(x, text);
        return x.load(0, 1);
    }

    private static void policies() {
        InternetHouse x = row(2, false);
        Due.is("all", 2, () -> policy(x, "in mark 65535 last 0 first 1 has 2 net 0.0.0.0/0 0 32 peer 3 go prepend 4 tag 0 med 1 degree 65535\nout accept"));
        String[] bad = {
            "in", "both accept", "in accept accept", "in peer 4 accept", "in net 10.0.0.0/8 7 9 accept", "in net 10.0.0.0/8 9 8 accept",
            "in net 10.0.0.0/8 8 33 accept", "in net 10.0.0.0/8 8 accept", "in has 65536 accept", "in mark 1 mark 2 accept",
            "in accept prepend 0", "in accept prepend 5", "in accept degree 65536", "in accept tag 1 tag 1", "in degree 5 accept",
            "in accept peer 1", "in refuse go", "accept",
        };
        for (String b : bad) {
            Due.is(b, -1, () -> policy(x, b));
        }
        StringBuilder many = new StringBuilder();
        for (int i = 0; i < 16; i++) {
            many.append("in go\n");
        }
        Due.is("16", 16, () -> policy(x, many.toString()));
        Due.is("17", -17, () -> policy(x, many + "in go"));
    }

    private static void down() {
        InternetHouse x = row(3, false);
        for (int i = 0; i < 3; i++) {
            x.set(i, 5, 1, 0, 0);
            x.set(i, 6, 1, 0, 0);
        }
        runs(x, 40);
        x.echo(0, net(1) + 2, 0, 32);
        runs(x, 20);
        Due.is("answered", net(1) + 2, () -> x.look(0, 13, 0, 3));
        int sent = x.count(0, 0);
        x.set(0, 0, 0, 0, 0);
        Due.is("down", 0, () -> x.look(0, 15, 0, 0));
        Due.is("ON still", 1, () -> x.look(0, 15, 0, 1));
        Due.missing("FOUND", () -> x.look(0, 0, 0, 0));
        Due.missing("DISTANCE", () -> x.look(0, 2, 0, 0));
        Due.missing("BOOKS", () -> x.look(0, 3, 0, 0));
        Due.missing("NEIGHBOURS", () -> x.look(0, 4, 0, 0));
        Due.is("ECHOS stay", net(1) + 2, () -> x.look(0, 13, 0, 3));
        Due.is("ADDRESSES stay", net(0) + 1, () -> x.look(0, 1, 0, 1));
        x.run(10);
        Due.is("nothing is sent", sent, () -> x.count(0, 0));
        x.set(0, 0, 1, 0, 0);
        runs(x, 40);
        Due.is("found again", 2, () -> x.map(0, 0, net(1) + 2));
    }

    public static void main(String[] args) {
        settings();
        distance();
        link();
        areas();
        outer();
        upAnew();
        numbersAnew();
        ring();
        policies();
        down();
        Due.end("WaysTest");
    }
}
