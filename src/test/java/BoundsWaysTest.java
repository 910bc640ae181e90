/** Boundary cases of DISTANCE, LINK and OUTER with POLICY, and of promises 10, 28 and 29 as far as they tell of these. */
public final class BoundsWaysTest {
    private static final int A1 = Wire.A1;
    private static final int A2 = Wire.A2;
    private static final int A9 = Due.a(10, 0, 0, 9);

    private static int net(int i) {
        return Due.a(20, i, 0, 0);
    }

    private static int[] nets(int from, int many, int cost) {
        int[] v = new int[3 * many];
        for (int i = 0; i < many; i++) {
            v[3 * i] = net(from + i);
            v[3 * i + 1] = 16;
            v[3 * i + 2] = cost;
        }
        return v;
    }

    private static InternetHouse distant() {
        InternetHouse x = Wire.pair(2);
        x.set(0, 5, 1, 0, 0);
        return x;
    }

    private static void distanceRows() {
        Due.sentence("DISTANCE (PROTOCOL 9): at most 24 ROWS: a NET, a COST 1 to 16, NEXT, PORT, a time.");
        InternetHouse x = distant();
        Due.inject(x, 0, Wire.distance(A2, nets(0, 16, 1)));
        Due.inject(x, 0, Wire.distance(A2, nets(16, 9, 1)));
        Due.is("24 of 25", 24, () -> Wire.rows(x, 0, 2));
        Due.is("the last", net(23), () -> x.look(0, 2, 23, 0));
        Due.inject(x, 0, Wire.distance(A2, nets(3, 1, 5)));
        Due.is("one that is there changes", 6, () -> x.look(0, 2, 3, 2));
        Due.sentence("DATA that came, if 6 divides its length, each NET with a COST of 1 to 16: m is 1 more, 16 at most;");
        Due.sentence("without a ROW, with m below 16 and less than 24: a new one (CHANGED).");
        InternetHouse y = distant();
        byte[] one = new byte[7];
        System.arraycopy(Due.join(Due.word(net(1)), Due.bytes(16, 1)), 0, one, 0, 6);
        Due.inject(y, 0, Due.packet(9, 1, 0, 0, A2, -1, Wire.cut(one, 5)));
        Due.inject(y, 0, Due.packet(9, 1, 0, 0, A2, -1, one));
        Due.inject(y, 0, Due.packet(9, 1, 0, 0, A2, -1, new byte[0]));
        Due.is("5, 7, 0 bytes", 0, () -> Wire.rows(y, 0, 2));
        Due.inject(y, 0, Wire.distance(A2, net(1), 16, 0, net(2), 16, 17, net(3), 16, 255, net(4), 16, 15, net(5), 16, 16));
        Due.is("COST 0, 17, 255; m 16 without a ROW", 0, () -> Wire.rows(y, 0, 2));
        Due.inject(y, 0, Wire.distance(A2, net(1), 16, 1, net(2), 16, 14));
        Due.is("two", 2, () -> Wire.rows(y, 0, 2));
        Due.is("m is 2", 2, () -> y.look(0, 2, 0, 2));
        Due.is("m is 15", 15, () -> y.look(0, 2, 1, 2));
        Due.sentence("What is too short for what it tells is nothing (so is a NET that can't be).");
        Due.inject(y, 0, Wire.distance(A2, net(3) + 1, 16, 1, net(4), 33, 1, net(5), 255, 1, 1 << 31, 0, 1, net(6), 15, 1));
        Due.is("net(6) of 15 BITS alone", 3, () -> Wire.rows(y, 0, 2));
        Due.inject(y, 0, Wire.distance(A2, 0, 0, 1, net(3) + 1, 32, 1));
        Due.is("0 and 32 BITS", 5, () -> Wire.rows(y, 0, 2));
        Due.sentence("a NET of KIND 0 here is nothing; the ROW of the NET, if its NEXT and PORT are these: its COST becomes m (CHANGED if that is another), its time TIME, or, if m is 16 and it was not, 30 UNITS ago (if it was, it stays);");
        InternetHouse z = distant();
        z.run(3);
        Due.inject(z, 0, Wire.distance(A2, Due.a(10, 0, 0, 0), 24, 1, net(1), 16, 3));
        Due.is("its own NET is not among them", 1, () -> Wire.rows(z, 0, 2));
        Due.inject(z, 0, Wire.distance(A2, Due.a(10, 0, 0, 0), 25, 1));
        Due.is("a part of it is", 2, () -> Wire.rows(z, 0, 2));
        Due.inject(z, 0, Wire.distance(A2, net(1), 16, 9));
        Due.is("greater of the same NEXT", 10, () -> z.look(0, 2, 0, 2));
        Due.inject(z, 0, Wire.distance(A2, net(1), 16, 16));
        Due.is("16", 16, () -> z.look(0, 2, 0, 2));
        Due.is("no WAY", -1, () -> z.way(0, 0, net(1)));
        z.run(14);
        Due.inject(z, 0, Wire.distance(A2, net(1), 16, 15));
        Due.is("44 UNITS, 16 again", 2, () -> Wire.rows(z, 0, 2));
        z.run(1);
        Due.is("45 UNITS: it stayed, and goes", 1, () -> Wire.rows(z, 0, 2));
        Due.sentence("a ROW with another NEXT or PORT becomes this one if m is below its COST (CHANGED);");
        InternetHouse u = distant();
        Due.inject(u, 0, Wire.distance(A2, net(1), 16, 5));
        Due.inject(u, 0, Wire.distance(A9, net(1), 16, 5));
        Due.is("the same COST", A2, () -> u.look(0, 2, 0, 3));
        Due.inject(u, 0, Wire.distance(A9, net(1), 16, 4));
        Due.is("1 less", A9, () -> u.look(0, 2, 0, 3));
        Due.inject(u, 0, Wire.distance(A9, net(1), 16, 16));
        Due.inject(u, 0, Wire.distance(A2, net(1), 16, 15));
        Due.is("16 is not below 16", A9, () -> u.look(0, 2, 0, 3));
        Due.inject(u, 0, Wire.distance(A2, net(1), 16, 14));
        Due.is("15 is", A2, () -> u.look(0, 2, 0, 3));
        Due.sentence("and count only if they came at such a PORT, FROM its NET and not its own ADDRESS.");
        InternetHouse v = distant();
        Due.inject(v, 0, Wire.distance(Due.a(10, 0, 1, 0), nets(1, 1, 1)));
        Due.inject(v, 0, Wire.distance(Due.a(9, 255, 255, 255), nets(1, 1, 1)));
        Due.inject(v, 0, Wire.distance(A1, nets(1, 1, 1)));
        Due.inject(v, 1, Wire.distance(A2, nets(1, 1, 1)));
        v.quality(0, 6, 1);
        Due.inject(v, 0, Wire.distance(A2, nets(1, 1, 1)));
        v.quality(0, 6, 0);
        Due.is("beyond its NET, its own, no ADDRESS, CUT", 0, () -> Wire.rows(v, 0, 2));
        Due.inject(v, 0, Wire.distance(Due.a(10, 0, 0, 0), nets(1, 1, 1)));
        Due.inject(v, 0, Wire.distance(Due.a(10, 0, 0, 255), nets(2, 1, 1)));
        Due.is("the first and the last of its NET", 2, () -> Wire.rows(v, 0, 2));
        v.set(0, 5, 0, 0, 0);
        Due.is("not ON: what it had is gone", 0, () -> Wire.rows(v, 0, 2));
        Due.inject(v, 0, Wire.distance(A2, nets(1, 1, 1)));
        Due.is("not ON", 0, () -> Wire.rows(v, 0, 2));
    }

    private static void distanceClock() {
        Due.sentence("each ROW with a COST below 16 of a time 30 UNITS ago or more (or whose PORT has no ADDRESS or no whole LINE) gets COST 16 (CHANGED), and the time 30 UNITS ago if it is later; one with a time 45 ago or more goes.");
        InternetHouse x = distant();
        Due.inject(x, 0, Wire.distance(A2, nets(1, 1, 3)));
        x.run(29);
        Due.is("29 UNITS", 4, () -> x.look(0, 2, 0, 2));
        x.run(1);
        Due.is("30 UNITS", 16, () -> x.look(0, 2, 0, 2));
        x.run(14);
        Due.is("44 UNITS", 1, () -> Wire.rows(x, 0, 2));
        x.run(1);
        Due.is("45 UNITS", 0, () -> Wire.rows(x, 0, 2));
        for (int way = 0; way < 2; way++) {
            InternetHouse y = distant();
            y.run(5);
            Due.inject(y, 0, Wire.distance(A2, nets(1, 1, 3)));
            if (way == 0) {
                y.quality(0, 6, 1);
            } else {
                y.address(0, 0, 0);
            }
            Due.is("before CLOCK", 4, () -> y.look(0, 2, 0, 2));
            Due.is("but no WAY", -1, () -> y.way(0, 0, net(1)));
            y.run(1);
            Due.is("at CLOCK", 16, () -> y.look(0, 2, 0, 2));
            y.run(14);
            Due.is("44 UNITS", 1, () -> Wire.rows(y, 0, 2));
            y.run(1);
            Due.is("45 UNITS", 0, () -> Wire.rows(y, 0, 2));
        }
        Due.sentence("Then, if TIME is divisible by 10, or something was CHANGED since it told the last time, it tells, on each PORT TO ALL, in PACKETS of at most 16, of 6 bytes each:");
        InternetHouse z = distant();
        z.run(9);
        Due.is("9", 0, () -> z.count(0, 0));
        z.run(1);
        Due.is("10", 1, () -> z.count(0, 0));
        z.run(9);
        Due.is("19", 1, () -> z.count(0, 0));
        z.run(2);
        Due.is("20", 20, () -> z.seen(0, 0, -2));
        Due.inject(z, 0, Wire.distance(A2, nets(1, 1, 3)));
        z.run(1);
        Due.is("CHANGED", 22, () -> z.seen(0, 0, -2));
        Due.inject(z, 0, Wire.distance(A2, nets(1, 1, 3)));
        z.run(3);
        Due.is("not CHANGED", 22, () -> z.seen(0, 0, -2));
        Due.inject(z, 0, Wire.distance(A2, nets(10, 14, 3)));
        z.run(2);
        Due.is("16 with its own NET: one", 26, () -> z.seen(0, 0, -2));
        Due.is("96 bytes", 96, () -> Wire.data(z, 0, 0).length);
        Due.inject(z, 0, Wire.distance(A2, nets(30, 1, 3)));
        z.run(2);
        Due.is("17: the second", 6, () -> Wire.data(z, 0, 0).length);
        Due.is("17: the first", 96, () -> Wire.data(z, 0, 1).length);
        Due.inject(z, 0, Wire.distance(A2, nets(40, 8, 3)));
        z.run(2);
        Due.is("25: the second", 54, () -> Wire.data(z, 0, 0).length);
        Due.sentence("each NET of KIND 0 (by PORTS) with 1, then each ROW (in the order in which they were made) with its COST, or 16 if its PORT is this one.");
        InternetHouse u = Wire.chain(148);
        u.set(1, 5, 1, 0, 0);
        Due.inject(u, 4, Wire.distance(A1, nets(1, 1, 3)));
        u.run(1);
        byte[] own = Due.join(Due.word(Due.a(10, 0, 0, 0)), Due.bytes(24, 1), Due.word(Due.a(10, 0, 1, 0)), Due.bytes(24, 1), Due.word(net(1)));
        Due.is("there", 1, () -> java.util.Arrays.equals(Due.join(own, Due.bytes(16, 4)), Wire.data(u, 5, 0)) ? 1 : 0);
        Due.is("where it came", 1, () -> java.util.Arrays.equals(Due.join(own, Due.bytes(16, 16)), Wire.data(u, 4, 0)) ? 1 : 0);
    }

    private static InternetHouse linked() {
        InternetHouse x = Wire.pair(2);
        x.set(0, 6, 1, 0, 0);
        Due.inject(x, 0, Wire.hello(0, 5, 0));
        x.run(1);
        return x;
    }

    private static void neighbours() {
        Due.sentence("an ID, the NODE's number (one above 11 or its own that came is nothing); each PORT has an AREA (0 to 3, 0 at first) and a COST (10 at first). DATA: a TYPE, an AREA (one that is not that of the PORT is nothing), an ID.");
        InternetHouse x = Wire.pair(2);
        x.set(0, 6, 1, 0, 0);
        int[] ids = {12, 255, 0, 11};
        for (int id : ids) {
            Due.inject(x, 0, Wire.hello(0, id));
        }
        Due.is("12, 255, its own; 11", 1, () -> Wire.rows(x, 0, 4));
        Due.is("11", 11, () -> x.look(0, 4, 0, 1));
        for (int area = 1; area < 5; area++) {
            Due.inject(x, 0, Wire.hello(area, 5));
        }
        Due.inject(x, 0, Wire.linked(Due.bytes(1, 0)));
        Due.inject(x, 0, Wire.linked(Due.bytes(0, 0, 5)));
        Due.inject(x, 0, Wire.linked(Due.bytes(4, 0, 5)));
        Due.is("another AREA, too short, another TYPE", 1, () -> Wire.rows(x, 0, 4));
        Due.sentence("7: AREA b of PORT a (its NEIGHBOURS are gone, and BOOKS of AREAS that none of the NODE's four PORTS has, whatever else these have).");
        x.run(1);
        Due.argument("PORT -1", () -> x.set(0, 7, -1, 0, 0));
        Due.argument("PORT 4", () -> x.set(0, 7, 4, 0, 0));
        Due.argument("AREA -1", () -> x.set(0, 7, 0, -1, 0));
        Due.argument("AREA 4", () -> x.set(0, 7, 0, 4, 0));
        Due.is("a BOOK", 1, () -> Wire.rows(x, 0, 3));
        Due.is("the same AREA", 1, () -> x.set(0, 7, 0, 0, 0));
        Due.is("its NEIGHBOURS are gone all the same", 0, () -> Wire.rows(x, 0, 4));
        Due.is("AREA 3", 1, () -> x.set(0, 7, 0, 3, 0));
        Due.is("three PORTS have AREA 0 still, without LINES", 1, () -> Wire.rows(x, 0, 3));
        x.set(0, 7, 1, 3, 0);
        x.set(0, 7, 2, 3, 0);
        Due.is("one PORT", 1, () -> Wire.rows(x, 0, 3));
        x.set(0, 7, 3, 3, 0);
        Due.is("none", 0, () -> Wire.rows(x, 0, 3));
        Due.sentence("NEIGHBOURS of a PORT (at most 4; more are not heard)");
        InternetHouse y = Wire.chain(148);
        y.set(1, 6, 1, 0, 0);
        for (int i = 2; i < 7; i++) {
            Due.inject(y, 4, Due.packet(89, 1, 0, 0, A1, -1, Due.bytes(1, 0, i)));
            int want = Math.min(4, i - 1);
            Due.is("at most 4", want, () -> Wire.rows(y, 1, 4));
        }
        Due.inject(y, 5, Due.packet(89, 1, 0, 0, Wire.B2, -1, Due.bytes(1, 0, 6)));
        Due.is("another PORT has its own", 5, () -> Wire.rows(y, 1, 4));
        Due.sentence("At CLOCK, ahead of the HELLOS, those heard 12 UNITS ago or more go.");
        y.run(4);
        Due.inject(y, 4, Due.packet(89, 1, 0, 0, A1, -1, Due.bytes(1, 0, 2, 1)));
        y.run(7);
        Due.is("11 UNITS", 5, () -> Wire.rows(y, 1, 4));
        y.run(1);
        Due.is("12 UNITS", 1, () -> Wire.rows(y, 1, 4));
        Due.is("the one heard later", 2, () -> y.look(1, 4, 0, 1));
        Due.is("it HEARS", 1, () -> y.look(1, 4, 0, 3));
        Due.is("the HELLO of 12 names that alone", 4, () -> Wire.data(y, 4, 0).length);
        Due.sentence("at CLOCK, if TIME is divisible by 4, on each PORT TO ALL.");
        InternetHouse z = Wire.pair(2);
        z.set(0, 6, 1, 0, 0);
        z.run(3);
        Due.is("3", 0, () -> z.count(0, 0));
        z.run(1);
        Due.is("4", 1, () -> z.count(0, 0));
        z.run(3);
        Due.is("7", 1, () -> z.count(0, 0));
        z.run(1);
        Due.is("8", 2, () -> z.count(0, 0));
        Due.is("HELLO", 1, () -> java.util.Arrays.equals(Due.bytes(1, 0, 0), Wire.data(z, 0, 0)) ? 1 : 0);
    }

    private static void rowIs(String what, int rows, byte[] row) {
        InternetHouse x = linked();
        Due.inject(x, 0, row);
        Due.is(what, 1 + rows, () -> Wire.rows(x, 0, 3));
    }

    private static void linkRows() {
        Due.sentence("LINKS (at most 8: ID, COST), NETS (at most 12; more are left out: NET, 5 bytes; COST, 2; a mark 0 or 1).");
        int[] eight = {0, 1, 1, 1, 2, 1, 3, 1, 4, 1, 6, 1, 7, 1, 8, 1};
        int[] nine = {0, 1, 1, 1, 2, 1, 3, 1, 4, 1, 6, 1, 7, 1, 8, 1, 9, 1};
        byte[] one = Wire.net(net(1), 16, 3, 0);
        rowIs("8 LINKS", 1, Wire.linkRow(5, 9, eight, one));
        rowIs("9 LINKS", 0, Wire.linkRow(5, 9, nine, one));
        byte[][] twelve = new byte[12][];
        byte[][] thirteen = new byte[13][];
        for (int i = 0; i < 13; i++) {
            thirteen[i] = Wire.net(net(i), 16, 3, i % 2);
            if (i < 12) {
                twelve[i] = thirteen[i];
            }
        }
        rowIs("12 NETS", 1, Wire.linkRow(5, 9, new int[0], twelve));
        rowIs("13 NETS", 0, Wire.linkRow(5, 9, new int[0], thirteen));
        rowIs("none of either", 1, Wire.linkRow(5, 9, new int[0]));
        rowIs("mark 1", 1, Wire.linkRow(5, 9, new int[0], Wire.net(net(1), 16, 3, 1)));
        rowIs("mark 2", 0, Wire.linkRow(5, 9, new int[0], Wire.net(net(1), 16, 3, 2)));
        rowIs("COST 65535", 1, Wire.linkRow(5, 9, new int[0], Wire.net(net(1), 16, 65535, 0)));
        Due.sentence("(2 bytes each), how many NETS, these (8 each; DATA ends there; NUMBER 1 to 2000000000; a LINK to an ID above 11 may be told, and is none).");
        rowIs("NUMBER 0", 0, Wire.linkRow(5, 0, new int[0], one));
        rowIs("NUMBER 1", 1, Wire.linkRow(5, 1, new int[0], one));
        rowIs("NUMBER 2000000000", 1, Wire.linkRow(5, 2000000000, new int[0], one));
        rowIs("NUMBER 2000000001", 0, Wire.linkRow(5, 2000000001, new int[0], one));
        rowIs("NUMBER -1", 0, Wire.linkRow(5, -1, new int[0], one));
        rowIs("a LINK to 12", 1, Wire.linkRow(5, 9, new int[] {12, 3, 255, 1}, one));
        rowIs("of ID 11", 1, Wire.linkRow(11, 9, new int[0], one));
        rowIs("of ID 12", 0, Wire.linkRow(12, 9, new int[0], one));
        byte[] data = Due.join(Due.bytes(2, 0, 5, 5), Due.word(9), Due.bytes(1, 0, 7, 1), one);
        rowIs("as it must be", 1, Wire.linked(data));
        for (int n : new int[] {3, 4, 8, 9, 11, 12, data.length - 1, data.length + 1}) {
            rowIs(n + " bytes", 0, Wire.linked(Wire.cut(data, n)));
        }
        Due.sentence("A ROW that comes from a NEIGHBOUR that HEARS (else nothing): of a NUMBER greater than that in the BOOK (or none there): it is put there; THANKS go back;");
        InternetHouse x = Wire.pair(2);
        x.set(0, 6, 1, 0, 0);
        Due.inject(x, 0, Wire.linkRow(5, 9, new int[0], one));
        Due.inject(x, 0, Wire.hello(0, 5));
        Due.inject(x, 0, Wire.linkRow(5, 9, new int[0], one));
        Due.is("no NEIGHBOUR, one that does not HEAR", 0, () -> Wire.rows(x, 0, 3));
        Due.inject(x, 0, Wire.hello(0, 5, 0));
        Wire.known(x, 0, A1, A2, 5);
        Due.inject(x, 0, Wire.linkRow(5, 9, new int[0], one));
        Due.is("one that HEARS", 9, () -> x.look(0, 3, 0, 2));
        x.run(2);
        Due.is("THANKS", 1, () -> thanks(x, 5, 9));
        Due.inject(x, 0, Wire.linkRow(5, 10, new int[0]));
        Due.is("1 more", 10, () -> x.look(0, 3, 1, 2));
        Due.is("its NETS", 0, () -> x.look(0, 3, 1, 4));
        Due.sentence("Of the same NUMBER: THANKS go back, and it counts as THANKS of this one. Of a lesser: the one in the BOOK is sent to it.");
        Due.inject(x, 0, Wire.linkRow(5, 10, new int[0], one));
        Due.is("the same: it stays", 0, () -> x.look(0, 3, 1, 4));
        Due.inject(x, 0, Wire.linkRow(5, 9, new int[0], one));
        Due.is("a lesser: it stays", 10, () -> x.look(0, 3, 1, 2));
        x.capture(0, 1);
        Due.inject(x, 0, Wire.linkRow(5, 1, new int[0], one));
        x.run(8);
        x.capture(0, 2);
        byte[] sent = Due.join(Due.bytes(2, 0, 0, 5), Due.word(10), Due.bytes(0, 0));
        Due.is("is sent", 1, () -> holds(Due.out(x), sent));
        Due.sentence("if it is of its own ID, it is put there anew with the own content and a NUMBER of 1 more, and that goes OUT;");
        Due.inject(x, 0, Wire.linkRow(0, 2000000000, new int[0]));
        Due.is("2000000001", 2000000001L, () -> x.look(0, 3, 0, 2));
        Due.is("its own NET", 1, () -> x.look(0, 3, 0, 4));
        Due.inject(x, 0, Wire.linkRow(0, 2000000000, new int[0]));
        Due.is("a lesser", 2000000001L, () -> x.look(0, 3, 0, 2));
    }

    /** 1 if one of the latest FRAMES of PORT 0 is THANKS for a ROW. */
    private static int thanks(InternetHouse x, int id, int number) {
        byte[] want = Due.join(Due.bytes(3, 0, 0, id), Due.word(number));
        int many = 0;
        for (int i = 0; i < 4 && i < x.count(0, 0); i++) {
            many += java.util.Arrays.equals(want, Wire.data(x, 0, i)) ? 1 : 0;
        }
        return many;
    }

    private static int holds(String out, byte[] data) {
        return out.contains(new String(data, java.nio.charset.StandardCharsets.ISO_8859_1)) ? 1 : 0;
    }

    private static void linkClock() {
        Due.sentence("who OWES THANKS for a ROW that is in the BOOK with this NUMBER, sent 10 UNITS ago or more, gets it anew (by PORTS, IDS; the ROWS by rising IDS); others are owed no more (nor is anything by one that HEARS no more, from that HELLO on).");
        for (int thanked = 0; thanked < 3; thanked++) {
            InternetHouse x = Wire.pair(2);
            Wire.known(x, 0, A1, A2, 5);
            x.set(0, 6, 1, 0, 0);
            Due.inject(x, 0, Wire.hello(0, 5, 0));
            x.run(2);
            Due.is("own ROW at 1: FIND, ROW", 2, () -> x.count(0, 0));
            if (thanked == 1) {
                Due.inject(x, 0, Wire.linked(Due.join(Due.bytes(3, 0, 5, 0), Due.word(1))));
            } else if (thanked == 2) {
                Due.inject(x, 0, Wire.hello(0, 5));
            } else {
                Due.inject(x, 0, Wire.linked(Due.join(Due.bytes(3, 0, 5, 0), Due.word(2))));
                Due.inject(x, 0, Wire.linked(Due.join(Due.bytes(3, 0, 5, 1), Due.word(1))));
                Due.inject(x, 0, Wire.linked(Due.bytes(3, 0, 5, 0, 0, 0, 0)));
                Due.inject(x, 0, Wire.linked(Due.join(Due.bytes(3, 0, 5, 12), Due.word(1))));
            }
            x.run(8);
            int before = x.count(0, 0);
            x.run(1);
            int k = thanked;
            Due.is("10 UNITS: " + k, before + (k == 0 ? 1 : 0), () -> x.count(0, 0));
        }
        Due.sentence("each with the least COST, at most 65535, by NET (without a sign), then BITS, but none that is there with mark 0.");
        InternetHouse y = Wire.chain(148);
        y.set(1, 7, 1, 1, 0);
        y.set(1, 6, 1, 0, 0);
        Wire.known(y, 4, A2, A1, 1);
        Due.inject(y, 4, Due.packet(89, 1, 0, 0, A1, -1, Due.bytes(1, 0, 5, 1)));
        Due.inject(y, 5, Due.packet(89, 1, 0, 0, Wire.B2, -1, Due.bytes(1, 1, 6, 1)));
        y.run(1);
        byte[] far = Due.join(Due.bytes(2, 1, 6, 6), Due.word(1), Due.bytes(1, 1, 10, 3), Wire.net(net(200), 16, 65535, 0),
            Wire.net(net(1), 16, 65515, 0), Wire.net(Due.a(10, 0, 0, 0), 24, 0, 0));
        Due.inject(y, 5, Due.packet(89, 1, 0, 0, Wire.B2, -1, far));
        y.capture(0, 1);
        y.run(3);
        byte[] row = Due.join(Due.bytes(1, 5, 10, 4), Wire.net(Due.a(10, 0, 0, 0), 24, 10, 0), Wire.net(Due.a(10, 0, 1, 0), 24, 10, 1),
            Wire.net(net(1), 16, 65525, 1), Wire.net(net(200), 16, 65535, 1));
        y.capture(0, 2);
        Due.is("own ROW of AREA 0", 1, () -> holds(Due.out(y), row));
        Due.is("FOUND: not cut off", 65545, () -> y.look(1, 5, 2, 2));
        Due.sentence("LINKS: each ID that HEARS on PORTS of the AREA, with the least COST of these (rising IDS);");
        InternetHouse z = new InternetHouse();
        z.node(2);
        for (int p = 0; p < 3; p++) {
            z.node(0);
            z.line(p, 4 + 4 * p, 1, 255, 148);
            z.address(p, Due.a(10, 0, p, 1), 24);
        }
        z.set(0, 6, 1, 0, 0);
        for (int id = 11; id > 0; id--) {
            Due.inject(z, id / 4, Due.packet(89, 1, 0, 0, Due.a(10, 0, id / 4, 9), -1, Due.bytes(1, 0, id, 0)));
        }
        z.run(1);
        Due.is("11 NEIGHBOURS", 11, () -> Wire.rows(z, 0, 4));
        Due.is("8 LINKS at most", 8, () -> z.look(0, 3, 0, 3));
        Due.is("3 NETS", 3, () -> z.look(0, 3, 0, 4));
        InternetHouse u = Wire.chain(148);
        u.set(1, 7, 1, 1, 0);
        u.set(1, 6, 1, 0, 0);
        Due.inject(u, 5, Due.packet(89, 1, 0, 0, Wire.B2, -1, Due.bytes(1, 1, 6, 1)));
        u.run(1);
        byte[] many = Due.join(Due.bytes(2, 1, 6, 6), Due.word(1), Due.bytes(1, 1, 10, 12));
        for (int i = 0; i < 12; i++) {
            many = Due.join(many, Wire.net(net(i), 16, 1, 0));
        }
        Due.inject(u, 5, Due.packet(89, 1, 0, 0, Wire.B2, -1, many));
        Due.is("12 FOUND", 12, () -> Wire.rows(u, 1, 5));
        u.run(1);
        Due.is("own ROW of AREA 0: 12 NETS of 14", 12, () -> u.look(1, 3, 0, 4));
        Due.is("own ROW of AREA 1: 2", 2, () -> u.look(1, 3, 1, 4));
        Due.sentence("D(a, b): the least sum of COSTS of LINKS (0 from a to a). A NET of the ROW of b with a COST c: by each NEIGHBOUR x that HEARS on PORT p (COST k), to which there is a LINK from this ID: k + D(x, b) + c, NEXT its ADDRESS; for b itself its own are not meant.");
        InternetHouse v = linked();
        Due.inject(v, 0, Wire.linkRow(5, 1, new int[] {0, 3, 7, 20, 8, 4}, Wire.net(net(5), 16, 2, 0)));
        Due.inject(v, 0, Wire.linkRow(7, 1, new int[] {5, 1, 8, 1}, Wire.net(net(7), 16, 0, 0)));
        Due.inject(v, 0, Wire.linkRow(8, 1, new int[] {5, 1, 7, 5}, Wire.net(net(8), 16, 0, 0)));
        Due.inject(v, 0, Wire.linkRow(9, 1, new int[] {8, 1}, Wire.net(net(9), 16, 0, 0)));
        v.run(1);
        Due.is("3 NETS; 8 does not name 9", 3, () -> Wire.rows(v, 0, 5));
        Due.is("of NEIGHBOUR 5: 10 + 0 + 2", 12, () -> v.look(0, 5, 0, 2));
        Due.is("of 7 by 8: 10 + 4 + 5, not 10 + 20", 19, () -> v.look(0, 5, 1, 2));
        Due.is("of 8: 10 + 4", 14, () -> v.look(0, 5, 2, 2));
        InternetHouse t = linked();
        Due.inject(t, 0, Wire.linkRow(5, 1, new int[] {0, 3, 7, 20, 7, 6, 7, 9}));
        Due.inject(t, 0, Wire.linkRow(7, 1, new int[] {5, 1}, Wire.net(net(7), 16, 0, 0)));
        t.run(1);
        Due.is("a LINK told with several COSTS: the least sum", 16, () -> t.look(0, 5, 0, 2));
    }

    private static InternetHouse outer() {
        InternetHouse x = Wire.pair(2);
        x.set(0, 8, 1, 0, 0);
        x.set(0, 9, A2, 5, 0);
        Wire.known(x, 0, A1, A2, 5);
        return x;
    }

    private static InternetHouse up() {
        InternetHouse x = outer();
        Due.inject(x, 0, Wire.outer(A2, Wire.open(0, 5, 7)));
        return x;
    }

    private static void peers() {
        Due.sentence("a ROUTER has a SYSTEM (1 to 65535; 0: not ON), at most 4 PEERS (an ADDRESS, a SYSTEM) and at most 6 own NETS.");
        InternetHouse x = Wire.pair(2);
        Due.argument("SYSTEM -1", () -> x.set(0, 8, -1, 0, 0));
        Due.argument("SYSTEM 65536", () -> x.set(0, 8, 65536, 0, 0));
        Due.is("SYSTEM 65535", 1, () -> x.set(0, 8, 65535, 0, 0));
        Due.is("SYSTEM 0", 1, () -> x.set(0, 8, 0, 0, 0));
        Due.argument("PEER 0", () -> x.set(0, 9, 0, 5, 0));
        Due.argument("PEER ALL", () -> x.set(0, 9, -1, 5, 0));
        Due.argument("PEER a GROUP", () -> x.set(0, 9, Wire.GROUP, 5, 0));
        Due.argument("PEER's SYSTEM -1", () -> x.set(0, 9, A2, -1, 0));
        Due.argument("PEER's SYSTEM 65536", () -> x.set(0, 9, A2, 65536, 0));
        for (int i = 0; i < 4; i++) {
            int k = i;
            Due.is("PEER", 1, () -> x.set(0, 9, A2 + k, 65535, 0));
        }
        Due.state("a fifth PEER", () -> x.set(0, 9, A2 + 4, 1, 0));
        Due.argument("numbers before room", () -> x.set(0, 9, A2 + 4, 65536, 0));
        Due.is("one that is there, anew", 1, () -> x.set(0, 9, A2 + 3, 1, 0));
        Due.is("one that is not there is gone", 1, () -> x.set(0, 9, A2 + 4, 0, 0));
        Due.is("one is gone", 1, () -> x.set(0, 9, A2, 0, 0));
        Due.is("room for one", 1, () -> x.set(0, 9, A2 + 4, 1, 0));
        for (int i = 0; i < 6; i++) {
            int k = i;
            Due.is("own NET", 1, () -> x.set(0, 10, net(k), 16, 1));
        }
        Due.state("a seventh NET", () -> x.set(0, 10, net(6), 16, 1));
        Due.is("one that is own", 1, () -> x.set(0, 10, net(5), 16, 1));
        Due.state("of other BITS", () -> x.set(0, 10, net(4), 17, 1));
        Due.is("not one that is not own", 1, () -> x.set(0, 10, net(6), 16, 0));
        Due.is("not one", 1, () -> x.set(0, 10, net(0), 16, 0));
        Due.is("0 BITS", 1, () -> x.set(0, 10, 0, 0, 1));
        Due.argument("33 BITS", () -> x.set(0, 10, net(0), 33, 1));
        Due.argument("other bits", () -> x.set(0, 10, net(0) + 1, 16, 1));
        Due.argument("c 2", () -> x.set(0, 10, net(0), 16, 2));
        Due.argument("c -1", () -> x.set(0, 10, net(0), 16, -1));
        Due.sentence("OPEN with another SYSTEM than the PEER's: END is sent, and it is IDLE (OPEN 2 or above is nothing).");
        InternetHouse y = outer();
        int[][] none = {{2, 5}, {255, 5}, {2, 6}};
        for (int[] o : none) {
            Due.inject(y, 0, Wire.outer(A2, Wire.open(o[0], o[1], 7)));
        }
        Due.inject(y, 0, Wire.outer(A2, Wire.cut(Wire.open(0, 5, 7), 4)));
        Due.inject(y, 0, Wire.outer(A9, Wire.open(0, 5, 7)));
        Due.inject(y, 0, Wire.outer(A2, new byte[0]));
        y.run(1);
        Due.is("nothing", 0, () -> y.look(0, 6, 0, 2));
        Due.is("no END", 1, () -> y.count(0, 0));
        Due.inject(y, 0, Wire.outer(A2, Wire.open(0, 5, 7)));
        Due.is("UP", 2, () -> y.look(0, 6, 0, 2));
        y.run(1);
        Due.is("OPEN 1 is sent", 1, () -> java.util.Arrays.equals(Wire.open(1, 1, 0), Wire.data(y, 0, 0)) ? 1 : 0);
        for (int which = 0; which < 2; which++) {
            int k = which;
            Due.inject(y, 0, Wire.outer(A2, Wire.open(0, 5, 7)));
            y.run(1);
            Due.inject(y, 0, Wire.outer(A2, Wire.open(k, 4, 7)));
            Due.is("another SYSTEM", 0, () -> y.look(0, 6, 0, 2));
            y.run(1);
            Due.is("END is sent", 1, () -> java.util.Arrays.equals(Due.bytes(6), Wire.data(y, 0, 0)) ? 1 : 0);
        }
        Due.sentence("OPEN 1: if ASKED or UP, it is UP (anew). END: IDLE.");
        InternetHouse v = outer();
        v.run(5);
        Due.inject(v, 0, Wire.outer(A2, Wire.open(1, 5, 7)));
        Due.is("OPEN 1 if IDLE", 0, () -> v.look(0, 6, 0, 2));
        v.run(1);
        Due.is("ASKED at 6", 1, () -> v.look(0, 6, 0, 2));
        Due.inject(v, 0, Wire.outer(A2, Wire.open(1, 5, 7)));
        Due.is("OPEN 1 if ASKED", 2, () -> v.look(0, 6, 0, 2));
        Due.inject(v, 0, Wire.outer(A2, Due.bytes(6)));
        Due.is("END", 0, () -> v.look(0, 6, 0, 2));
        Due.sentence("IDLE or ASKED: if TIME + NODE is divisible by 6, OPEN 0 is sent, and it is ASKED; UP: if nothing right came from it for 25 UNITS it is IDLE; else, if TIME is divisible by 8, KEEP.");
        for (int n = 0; n < 2; n++) {
            InternetHouse z = Wire.pair(2);
            z.set(n, 8, 1, 0, 0);
            z.set(n, 9, n == 0 ? A2 : A1, 5, 0);
            int k = n;
            z.run(5 - n);
            Due.is("before", 0, () -> z.look(k, 6, 0, 2));
            z.run(1);
            Due.is("TIME + NODE is 6", 1, () -> z.look(k, 6, 0, 2));
        }
        for (int late = 0; late < 2; late++) {
            InternetHouse z = up();
            z.run(3);
            Due.inject(z, 0, Wire.outer(A2, Due.bytes(2)));
            z.run(5);
            Due.is("KEEP at 8", 1, () -> java.util.Arrays.equals(Due.bytes(2), Wire.data(z, 0, 0)) ? 1 : 0);
            Due.is("at 8", 8, () -> z.seen(0, 0, -2));
            z.run(19);
            if (late == 0) {
                Due.is("24 UNITS", 2, () -> z.look(0, 6, 0, 2));
                Due.inject(z, 0, Wire.outer(A2, Due.bytes(7)));
                Due.inject(z, 0, Wire.outer(A2, Due.bytes(5, 0)));
                Due.inject(z, 0, Wire.outer(A2, Wire.cut(Wire.takeBack(1, net(1), 16), 7)));
                Due.inject(z, 0, Wire.outer(A2, Wire.takeBack(1, net(1), 33)));
                z.run(1);
                Due.is("25 UNITS, nothing right", 0, () -> z.look(0, 6, 0, 2));
            } else {
                Due.inject(z, 0, Wire.outer(A2, Due.bytes(5, 0, 0)));
                z.run(1);
                Due.is("THANKS came", 2, () -> z.look(0, 6, 0, 2));
            }
        }
    }

    /** 1 if a TELL of the PEER that is UP is HEARD. */
    private static int heard(byte[] data) {
        InternetHouse x = up();
        Due.inject(x, 0, Wire.outer(A2, data));
        return (int) x.look(0, 6, 0, 3);
    }

    private static void tells() {
        Due.sentence("NEXT (4), ORIGIN (0 to 2), MED (2), DEGREE (2), MARK (2), how many SYSTEMS (at most 8), these (2 each; DATA ends there);");
        int n = net(1);
        Due.is("ORIGIN 2", 1, () -> heard(Wire.tell(1, n, 16, A2, 2, 0, 100, 0)));
        Due.is("ORIGIN 3", 0, () -> heard(Wire.tell(1, n, 16, A2, 3, 0, 100, 0)));
        Due.is("8 SYSTEMS", 1, () -> heard(Wire.tell(1, n, 16, A2, 0, 0, 100, 0, 5, 5, 5, 5, 5, 5, 5, 5)));
        Due.is("9 SYSTEMS", 0, () -> heard(Wire.tell(1, n, 16, A2, 0, 0, 100, 0, 5, 5, 5, 5, 5, 5, 5, 5, 5)));
        byte[] right = Wire.tell(1, n, 16, A2, 0, 65535, 65535, 65535, 5);
        Due.is("the greatest numbers", 1, () -> heard(right));
        Due.is("1 byte less", 0, () -> heard(Wire.cut(right, right.length - 1)));
        Due.is("1 byte more", 0, () -> heard(Wire.cut(right, right.length + 1)));
        Due.is("20 bytes", 1, () -> heard(Wire.tell(1, n, 16, A2, 0, 0, 0, 0)));
        Due.is("19 bytes", 0, () -> heard(Wire.cut(Wire.tell(1, n, 16, A2, 0, 0, 0, 0), 19)));
        Due.is("a NET that can't be: bits", 0, () -> heard(Wire.tell(1, n + 1, 16, A2, 0, 0, 0, 0)));
        Due.is("a NET that can't be: BITS", 0, () -> heard(Wire.tell(1, n, 33, A2, 0, 0, 0, 0)));
        Due.is("BITS 0", 1, () -> heard(Wire.tell(1, 0, 0, A2, 0, 0, 0, 0)));
        Due.is("BITS 32", 1, () -> heard(Wire.tell(1, n + 1, 32, A2, 0, 0, 0, 0)));
        Due.sentence("THANKS with its NUMBER; if that is the one of the last one taken (0 at first) it is nothing more; else it is taken: HEARD of a PEER: at most 12 NETS (more are nothing);");
        InternetHouse x = up();
        x.run(2);
        Due.inject(x, 0, Wire.outer(A2, Wire.tell(0, n, 16, A2, 0, 0, 100, 0)));
        Due.is("NUMBER 0", 0, () -> x.look(0, 6, 0, 3));
        x.run(1);
        Due.is("THANKS all the same", 1, () -> java.util.Arrays.equals(Due.bytes(5, 0, 0), Wire.data(x, 0, 0)) ? 1 : 0);
        Due.inject(x, 0, Wire.outer(A2, Wire.tell(65535, n, 16, A2, 0, 0, 100, 0)));
        Due.is("NUMBER 65535", 1, () -> x.look(0, 6, 0, 3));
        Due.inject(x, 0, Wire.outer(A2, Wire.takeBack(65535, n, 16)));
        Due.is("the same NUMBER", 1, () -> x.look(0, 6, 0, 3));
        Due.inject(x, 0, Wire.outer(A2, Wire.takeBack(0, n, 16)));
        Due.is("0 behind it", 0, () -> x.look(0, 6, 0, 3));
        Due.inject(x, 0, Wire.outer(A2, Wire.takeBack(1, n, 16)));
        Due.is("TAKE BACK of what is not HEARD", 0, () -> x.look(0, 6, 0, 3));
        for (int i = 1; i <= 13; i++) {
            Due.inject(x, 0, Wire.outer(A2, Wire.tell(i + 1, net(i), 16, A2, 0, 0, 100, 0)));
            int want = Math.min(12, i);
            Due.is("at most 12", want, () -> x.look(0, 6, 0, 3));
        }
        Due.inject(x, 0, Wire.outer(A2, Wire.tell(20, net(1), 16, A2, 0, 9, 100, 0)));
        Due.is("one that is HEARD is put in place of the former", 9, () -> x.look(0, 7, 0, 6));
        Due.inject(x, 0, Wire.outer(A2, Wire.tell(21, net(1), 16, A2, 0, 9, 100, 0, 5, 1)));
        Due.is("the own SYSTEM: the former is gone", 11, () -> x.look(0, 6, 0, 3));
        Due.inject(x, 0, Wire.outer(A2, Wire.tell(22, net(13), 16, A2, 0, 9, 100, 0)));
        Due.is("there is room again", 12, () -> x.look(0, 6, 0, 3));
        InternetHouse idle = outer();
        Due.inject(idle, 0, Wire.outer(A2, Wire.tell(1, n, 16, A2, 0, 0, 100, 0)));
        Due.is("from one that is not UP", 0, () -> idle.look(0, 6, 0, 3));
    }

    private static InternetHouse two(int system2) {
        InternetHouse x = up();
        x.set(0, 9, A9, system2, 0);
        Due.inject(x, 0, Wire.outer(A9, Wire.open(0, system2, 7)));
        return x;
    }

    private static void chosenIs(String what, int want, int system2, byte[] first, byte[] second) {
        InternetHouse x = two(system2);
        Due.inject(x, 0, Wire.outer(A2, first));
        Due.inject(x, 0, Wire.outer(A9, second));
        Due.is(what, want, () -> x.look(0, 7, 0, 2));
    }

    private static void chosen() {
        Due.sentence("those with the greatest DEGREE; the fewest SYSTEMS; the least ORIGIN; of each first SYSTEM (0 without) those with the least MED; of outer PEERS, if any; with the least COST of THE WAY to NEXT (KIND 0 as 0); of the PEER with the least NODE number (that it told); the least PEER's ADDRESS.");
        int n = net(1);
        chosenIs("DEGREE 1 more", A9, 6, Wire.tell(1, n, 16, A2, 0, 0, 100, 0, 5), Wire.tell(1, n, 16, A9, 2, 9, 101, 0, 6, 7, 8));
        chosenIs("a SYSTEM less", A9, 6, Wire.tell(1, n, 16, A2, 0, 0, 100, 0, 5, 6), Wire.tell(1, n, 16, A9, 2, 9, 100, 0, 6));
        chosenIs("none of them", A9, 6, Wire.tell(1, n, 16, A2, 0, 0, 100, 0, 5), Wire.tell(1, n, 16, A9, 2, 9, 100, 0));
        chosenIs("ORIGIN", A9, 6, Wire.tell(1, n, 16, A2, 2, 0, 100, 0, 5), Wire.tell(1, n, 16, A9, 1, 9, 100, 0, 6));
        chosenIs("MED of one first SYSTEM", A9, 6, Wire.tell(1, n, 16, A2, 0, 10, 100, 0, 5), Wire.tell(1, n, 16, A9, 0, 9, 100, 0, 5));
        chosenIs("MED of two first SYSTEMS", A2, 6, Wire.tell(1, n, 16, A2, 0, 10, 100, 0, 5), Wire.tell(1, n, 16, A9, 0, 9, 100, 0, 6));
        chosenIs("MED without SYSTEMS", A9, 6, Wire.tell(1, n, 16, A2, 0, 10, 100, 0), Wire.tell(1, n, 16, A9, 0, 9, 100, 0));
        chosenIs("an INNER and an outer PEER", A2, 1, Wire.tell(1, n, 16, A2, 0, 0, 100, 0, 5), Wire.tell(1, n, 16, A9, 0, 0, 100, 0, 5));
        chosenIs("all even: the least ADDRESS", A2, 6, Wire.tell(1, n, 16, A2, 0, 0, 100, 0, 5), Wire.tell(1, n, 16, A9, 0, 0, 100, 0, 6));
        InternetHouse x = two(6);
        Due.inject(x, 0, Wire.outer(A9, Wire.open(0, 6, 6)));
        Due.inject(x, 0, Wire.outer(A2, Wire.tell(1, n, 16, A2, 0, 0, 100, 0, 5)));
        Due.inject(x, 0, Wire.outer(A9, Wire.tell(1, n, 16, A9, 0, 0, 100, 0, 5)));
        Due.is("NODE number 6 below 7", A9, () -> x.look(0, 7, 0, 2));
        x.route(0, Due.a(99, 0, 0, 0), 8, A2, 1);
        Due.inject(x, 0, Wire.outer(A9, Wire.tell(2, n, 16, Due.a(99, 0, 0, 1), 0, 0, 100, 0, 5)));
        Due.is("COST 1 of KIND 1 against KIND 0", A2, () -> x.look(0, 7, 0, 2));
        x.route(0, Due.a(99, 0, 0, 0), 8, A2, -1);
        x.route(0, Due.a(99, 0, 0, 0), 8, A2, 0);
        Due.is("COST 0 of KIND 1", Due.a(99, 0, 0, 1), () -> x.look(0, 7, 0, 2));
        Due.inject(x, 0, Wire.outer(A9, Wire.tell(3, n, 16, Due.a(98, 0, 0, 1), 0, 0, 200, 0, 5)));
        Due.is("NEXT without a WAY is not meant", A2, () -> x.look(0, 7, 0, 2));
        x.set(0, 10, n, 16, 1);
        Due.is("the own one", 0, () -> x.look(0, 7, 0, 2));
        Due.is("DEGREE 100", 100, () -> x.look(0, 7, 0, 3));
        Due.is("no SYSTEMS", 0, () -> x.look(0, 7, 0, 4));
        Due.is("the first (0)", 0, () -> x.look(0, 7, 0, 5));
        Due.sentence("7 CHOSEN (by NET, BITS): NET, BITS, NEXT, DEGREE, how many SYSTEMS, the first (0), MED, MARK;");
        x.set(0, 10, 1 << 31, 1, 1);
        x.set(0, 10, n, 17, 1);
        x.set(0, 10, 0, 0, 1);
        Due.is("0", 0, () -> x.look(0, 7, 0, 0));
        Due.is("16 BITS", 16, () -> x.look(0, 7, 1, 1));
        Due.is("17 BITS", 17, () -> x.look(0, 7, 2, 1));
        Due.is("without a sign", 1 << 31, () -> x.look(0, 7, 3, 0));
    }

    /** What TELL or TAKE BACK of PORT 0 is under way, as text of its DATA; then THANKS for it come. */
    private static byte[] told(InternetHouse x, int units) {
        for (int i = 0; i < units; i++) {
            x.run(1);
            byte[] d = Wire.data(x, 0, 0);
            if (d.length > 7 && (d[0] == 3 || d[0] == 4) && x.seen(0, 0, 4) == 79 && x.seen(0, 0, -2) == now(x)) {
                Due.inject(x, 0, Wire.outer(A2, Due.bytes(5, d[1], d[2])));
                return d;
            }
        }
        return new byte[0];
    }

    private static int now(InternetHouse x) {
        Due.inject(x, 0, Due.packet(1, 9, 0, 0, A2, A1, Due.control(0, 0, 0, 0, new byte[0])));
        return (int) x.look(0, 13, Wire.rows(x, 0, 13) - 1, 4);
    }

    private static void same(String what, byte[] want, byte[] got) {
        Due.said(what, java.util.Arrays.toString(got), java.util.Arrays.toString(want));
    }

    private static void telling() {
        Due.sentence("the first NET (in that order) that it is to be told otherwise than it was TOLD (TELL), or that it was TOLD and is not to be told any more (TAKE BACK) is sent with the next NUMBER (from 1), and is under way; what is under way is sent again 10 UNITS after the latest time; with its THANKS it was TOLD so.");
        InternetHouse x = up();
        x.set(0, 10, net(2), 16, 1);
        x.set(0, 10, net(1), 16, 1);
        x.set(0, 10, net(1), 17, 1);
        same("the first", Wire.tell(1, net(1), 16, A1, 0, 0, 100, 0, 1), told(x, 5));
        Due.is("TOLD", 1, () -> x.look(0, 6, 0, 4));
        same("of more BITS", Wire.tell(2, net(1), 17, A1, 0, 0, 100, 0, 1), told(x, 5));
        x.set(0, 10, net(1), 16, 0);
        same("TAKE BACK comes before, in that order", Wire.takeBack(3, net(1), 16), told(x, 5));
        same("the last", Wire.tell(4, net(2), 16, A1, 0, 0, 100, 0, 1), told(x, 5));
        same("nothing more", new byte[0], told(x, 7));
        InternetHouse y = up();
        y.run(2);
        y.set(0, 10, net(1), 16, 1);
        y.run(1);
        int sent = y.count(0, 0);
        Due.inject(y, 0, Wire.outer(A2, Due.bytes(5, 0, 2)));
        Due.inject(y, 0, Wire.outer(A2, Due.bytes(5, 1, 1)));
        Due.is("THANKS for another", 0, () -> y.look(0, 6, 0, 4));
        y.run(9);
        Due.is("9 UNITS: a KEEP", sent + 1, () -> y.count(0, 0));
        y.run(1);
        Due.is("10 UNITS: sent again", sent + 2, () -> y.count(0, 0));
        same("the same NUMBER", Wire.tell(1, net(1), 16, A1, 0, 0, 100, 0, 1), Wire.data(y, 0, 0));
        y.run(9);
        Due.is("9 UNITS: a KEEP", sent + 3, () -> y.count(0, 0));
        Due.inject(y, 0, Wire.outer(A2, Due.bytes(5, 0, 1)));
        Due.is("TOLD", 1, () -> y.look(0, 6, 0, 4));
        y.run(1);
        Due.is("not sent again", sent + 3, () -> y.count(0, 0));
        Due.sentence("not one HEARD of it, nor one HEARD of an INNER one to an INNER one; to an outer one with the own SYSTEM put before its SYSTEMS (of 8 the last goes)");
        for (int many = 7; many < 9; many++) {
            InternetHouse z = two(6);
            int[] systems = new int[many];
            int[] more = new int[8];
            more[0] = 1;
            for (int i = 0; i < many; i++) {
                systems[i] = 20 + i;
                if (i < 7) {
                    more[i + 1] = 20 + i;
                }
            }
            Due.inject(z, 0, Wire.outer(A9, Wire.tell(1, net(1), 16, A9, 1, 9, 77, 3, systems)));
            same(many + " SYSTEMS", Wire.tell(1, net(1), 16, A1, 1, 0, 100, 3, more), told(z, 5));
            Due.is("to the other one nothing", 0, () -> z.look(0, 6, 1, 4));
        }
        for (int inner = 0; inner < 2; inner++) {
            InternetHouse z = Wire.pair(2);
            z.set(0, 8, 1, 0, 0);
            z.set(0, 9, A2, 1, 0);
            z.set(0, 9, A9, inner == 1 ? 1 : 6, 0);
            Wire.known(z, 0, A1, A2, 5);
            Due.inject(z, 0, Wire.outer(A2, Wire.open(0, 1, 7)));
            Due.inject(z, 0, Wire.outer(A9, Wire.open(0, inner == 1 ? 1 : 6, 7)));
            Due.inject(z, 0, Wire.outer(A9, Wire.tell(1, net(1), 16, A9, 1, 9, 77, 3, 20)));
            byte[] none = new byte[0];
            same(inner == 1 ? "HEARD of an INNER one" : "to an INNER one as it is",
                inner == 1 ? none : Wire.tell(1, net(1), 16, A9, 1, 9, 77, 3, 20), told(z, 5));
        }
    }

    /** What is CHOSEN of a TELL with a POLICY, its number k; -1 if nothing. */
    private static long policed(String text, int k, byte[] tell) {
        InternetHouse x = up();
        Wire.load(x, 0, 1, text);
        Due.inject(x, 0, Wire.outer(A2, tell));
        return Wire.rows(x, 0, 7) == 0 ? -1 : x.look(0, 7, 0, k);
    }

    private static void policies() {
        Due.sentence("POLICY: at most 16 RULES, each IN or OUT, with CONDITIONS: a PEER (its place), a NET with least and most BITS (a NET within it, with such BITS), a SYSTEM among its SYSTEMS, a first SYSTEM, a last one (0 without SYSTEMS), a MARK;");
        InternetHouse x = Wire.pair(2);
        Due.is("16", 16, () -> Wire.load(x, 0, 1, "in go\n".repeat(16)));
        Due.is("17", -17, () -> Wire.load(x, 0, 1, "in go\n".repeat(17)));
        int[] bits = {7, 8, 9, 24, 25, 32};
        int[] passed = {-1, -1, 9, 24, -1, -1};
        for (int i = 0; i < bits.length; i++) {
            int k = i;
            Due.is("net 20.0.0.0/8 9 24 with " + bits[k], passed[k], () -> policed("in net 20.0.0.0/8 9 24 accept\nin refuse", 1,
                Wire.tell(1, bits[k] < 8 ? Due.a(20, 0, 0, 0) : Due.a(20, 0, 0, 0), bits[k], A2, 0, 0, 100, 0)));
        }
        Due.is("the NET itself", 8, () -> policed("in net 20.0.0.0/8 8 8 accept\nin refuse", 1, Wire.tell(1, Due.a(20, 0, 0, 0), 8, A2, 0, 0, 100, 0)));
        Due.is("another NET", -1, () -> policed("in net 20.0.0.0/8 8 32 accept\nin refuse", 1, Wire.tell(1, Due.a(21, 0, 0, 0), 8, A2, 0, 0, 100, 0)));
        byte[] three = Wire.tell(1, net(1), 16, A2, 0, 0, 100, 7, 5, 65535, 9);
        byte[] none = Wire.tell(1, net(1), 16, A2, 0, 0, 100, 7);
        String[] holds = {"has 5", "has 65535", "has 9", "first 5", "last 9", "mark 7", "peer 0"};
        String[] fails = {"has 6", "has 0", "first 9", "last 5", "last 0", "first 0", "mark 0", "mark 8", "peer 1", "peer 3"};
        for (String s : holds) {
            Due.is(s, 3, () -> policed("in " + s + " accept\nin refuse", 4, three));
        }
        for (String s : fails) {
            Due.is(s, -1, () -> policed("in " + s + " accept\nin refuse", 4, three));
        }
        Due.is("first 0 without SYSTEMS", 0, () -> policed("in first 0 accept\nin refuse", 4, none));
        Due.is("last 0 without SYSTEMS", 0, () -> policed("in last 0 accept\nin refuse", 4, none));
        Due.is("has 0 without SYSTEMS", -1, () -> policed("in has 0 accept\nin refuse", 4, none));
        Due.is("an OUT rule", 3, () -> policed("out refuse", 4, three));
        Due.sentence("changes: DEGREE, MED, MARK becomes n; the own SYSTEM n more times before the SYSTEMS (as far as 8). They are gone through in order; if all CONDITIONS of one hold, its changes are made (in this order), and ACCEPT or REFUSE ends it; at the end: ACCEPT.");
        Due.is("DEGREE 65535", 65535, () -> policed("in go degree 65535", 3, three));
        Due.is("DEGREE 0", 0, () -> policed("in go degree 0", 3, three));
        Due.is("MED 65535", 65535, () -> policed("in go med 65535", 6, three));
        Due.is("MARK 0", 0, () -> policed("in go tag 0", 7, three));
        Due.is("1 more time", 4, () -> policed("in go prepend 1", 4, three));
        Due.is("4 more times", 7, () -> policed("in go prepend 4", 4, three));
        Due.is("as far as 8", 8, () -> policed("in go prepend 4\nin go prepend 4", 4, three));
        Due.is("the first", 1, () -> policed("in go prepend 1", 5, three));
        Due.is("of 8 none goes", 5, () -> policed("in go prepend 4", 5, Wire.tell(1, net(1), 16, A2, 0, 0, 100, 7, 5, 5, 5, 5, 5, 5, 5, 5)));
        Due.is("what a rule changed the next one sees", 9, () -> policed("in go tag 5\nin mark 5 go med 9\nin refuse mark 7", 6, three) < 0 ? -1 : 9);
        Due.is("ACCEPT ends it", 100, () -> policed("in accept\nin go degree 5", 3, three));
        Due.is("REFUSE ends it", -1, () -> policed("in refuse\nin accept", 3, three));
        Due.is("at the end: ACCEPT", 100, () -> policed("in mark 8 refuse", 3, three));
        Due.sentence("(each at most once; conditions in any order, changes likewise; N up to 65535, peer 0 to 3, BITS up to 32, the first not above the second and B not above the first, prepend 1 to 4).");
        String[] right = {"in accept", "out refuse", "in go", "in peer 3 accept", "in peer 0 accept", "in has 65535 first 65535 last 65535 mark 65535 accept",
            "out net 0.0.0.0/0 0 32 go degree 65535 med 65535 tag 65535 prepend 4", "in net 1.2.3.4/32 32 32 accept", "in net 10.0.0.0/8 8 8 accept",
            "in accept prepend 1", "in mark 1 last 1 first 1 has 1 net 10.0.0.0/8 9 9 peer 1 accept prepend 1 tag 1 med 1 degree 1"};
        for (String s : right) {
            Due.is(s, 1, () -> Wire.load(x, 0, 1, s));
        }
        String[] wrong = {"in", "in peer 4 accept", "in has 65536 accept", "in first 65536 accept", "in last 65536 accept", "in mark 65536 accept",
            "in net 10.0.0.0/8 9 33 accept", "in net 10.0.0.0/8 9 8 accept", "in net 10.0.0.0/8 7 9 accept", "in net 10.0.0.0/8 8 accept",
            "in net 10.0.0.1/8 8 9 accept", "in net 10.0.0.0/8 accept", "in accept prepend 0", "in accept prepend 5", "in accept degree 65536",
            "in accept med 65536", "in accept tag 65536", "in accept degree", "in peer 1 peer 1 accept", "in mark 1 mark 1 accept",
            "in net 1.0.0.0/8 8 8 net 1.0.0.0/8 8 8 accept", "in has 1 has 1 accept", "in accept tag 1 tag 1", "in accept degree 1 degree 1",
            "in accept accept", "in degree 1 accept", "in accept peer 1", "accept", "in out accept", "pass", "in has accept"};
        for (String s : wrong) {
            Due.is(s, -1, () -> Wire.load(x, 0, 1, s));
        }
    }

    private static void setting() {
        Due.sentence("IllegalStateException: no room (PEERS 4, NETS 6, GROUPS 4), or not for its kind: 1 BRIDGES; 14 HOSTS; 13, 15, 16 HOSTS and ROUTERS; 5 to 12 ROUTERS;");
        InternetHouse x = new InternetHouse();
        for (int i = 0; i < 3; i++) {
            x.node(i);
        }
        String[] kinds = {"012", "1", "012", "012", "012", "2", "2", "2", "2", "2", "2", "2", "2", "02", "0", "02", "02"};
        for (int what = 0; what < 17; what++) {
            for (int n = 0; n < 3; n++) {
                int k = what;
                int node = n;
                int a = k == 9 ? A9 : k == 10 ? net(1) : k == 16 ? Wire.GROUP : k == 15 ? 0 : 1;
                int b = k == 10 ? 16 : k == 13 ? 0 : 1;
                int c = k == 13 ? 0 : 1;
                String name = "what " + k + " of kind " + node;
                if (kinds[k].indexOf('0' + node) >= 0) {
                    Due.is(name, 1, () -> x.set(node, k, a, b, c));
                } else {
                    Due.state(name, () -> x.set(node, k, a, b, c));
                    if (k != 8) {
                        Due.argument(name + ": numbers first", () -> x.set(node, k, k == 15 || k == 9 || k == 12 ? -1 : 999, k == 12 ? -1 : 999, -5));
                    }
                }
            }
        }
        Due.sentence("IllegalArgumentException: another what, numbers; an ADDRESS of 9, 12 or 15 that is ALL or a GROUP (9: also 0), one of 16 that is no GROUP.");
        Due.missing("NODE 3", () -> x.set(3, 0, 1, 0, 0));
        Due.missing("NODE before what", () -> x.set(-1, 17, 1, 0, 0));
        Due.argument("what -1", () -> x.set(0, -1, 1, 0, 0));
        Due.argument("what 17", () -> x.set(0, 17, 1, 0, 0));
        for (int what : new int[] {0, 5, 6}) {
            Due.argument(what + ": -1", () -> x.set(2, what, -1, 0, 0));
            Due.argument(what + ": 2", () -> x.set(2, what, 2, 0, 0));
        }
        Due.argument("15 ALL", () -> x.set(0, 15, -1, 0, 0));
        Due.argument("15 a GROUP", () -> x.set(0, 15, Wire.GROUP, 0, 0));
        Due.argument("16 ALL", () -> x.set(0, 16, -1, 1, 0));
    }

    private static void maps() {
        InternetHouse x = Wire.chain(148);
        x.node(1);
        Due.sentence("how many LINES a PACKET with FROM the least PORT's ADDRESS of NODE a, TO an ADDRESS b, goes over till a NODE that has b, by THE WAYS, as if all ADDRESSES were FOUND");
        Due.sentence("0 if a has b; -1 if it does not come there in 32 such steps, or by a HOST, but a, or a TUNNEL. NoSuchElementException: also a BRIDGE.");
        Due.argument("what -1", () -> x.map(-1, 0, 0));
        Due.argument("what 4", () -> x.map(4, 0, 0));
        Due.missing("NODE 4", () -> x.map(0, 4, A1));
        Due.missing("NODE -1", () -> x.map(0, -1, A1));
        Due.missing("a BRIDGE", () -> x.map(0, 3, A1));
        Due.is("a has b", 0, () -> x.map(0, 0, A1));
        Due.is("1 LINE", 1, () -> x.map(0, 0, A2));
        Due.is("2 LINES", 2, () -> x.map(0, 0, Wire.B2));
        Due.is("nobody", -1, () -> x.map(0, 0, Due.a(10, 0, 1, 9)));
        Due.is("no WAY", -1, () -> x.map(0, 1, Due.a(99, 0, 0, 1)));
        x.route(1, Due.a(99, 0, 0, 0), 8, Wire.B2, 1);
        Due.is("by a HOST", -1, () -> x.map(0, 0, Due.a(99, 0, 0, 1)));
        x.route(1, Due.a(98, 0, 0, 0), 8, A1, 1);
        Due.is("by a, a HOST, again and again", -1, () -> x.map(0, 0, Due.a(98, 0, 0, 1)));
        x.set(1, 0, 0, 0, 0);
        Due.is("a NODE that is down", -1, () -> x.map(0, 0, A2));
        x.set(1, 0, 1, 0, 0);
        x.set(1, 12, 0, Wire.B2, 0);
        x.route(1, Due.a(97, 0, 0, 0), 8, 0, 1);
        Due.is("a TUNNEL", -1, () -> x.map(0, 0, Due.a(97, 0, 0, 1)));
        Due.sentence("-1 without, or for a NODE that is none such.");
        Due.missing("NODE a", () -> x.map(1, 4, 0));
        Due.missing("NODE b", () -> x.map(1, 0, -1));
        Due.is("a HOST", -1, () -> x.map(1, 0, 1));
        Due.is("a ROUTER without LINK", -1, () -> x.map(1, 1, 1));
        x.set(1, 6, 1, 0, 0);
        Due.is("from such a ROUTER to itself", 0, () -> x.map(1, 1, 1));
        x.set(1, 0, 0, 0, 0);
        Due.is("down", -1, () -> x.map(1, 1, 1));
        InternetHouse y = Wire.pair(2);
        for (int i = 0; i < 2; i++) {
            y.set(i, 6, 1, 0, 0);
        }
        y.set(0, 2, 0, 255, 0);
        Due.is("the first one's COST", 255, () -> y.map(1, 0, 1));
        Due.is("the other way round", 10, () -> y.map(1, 1, 0));
        y.set(1, 7, 0, 1, 0);
        Due.is("another AREA", -1, () -> y.map(1, 0, 1));
        Due.is("not so connected: the same", 1, () -> y.map(2, 0, 0));
        y.set(1, 7, 0, 0, 0);
        y.run(5);
        Due.is("BOOKS differ", 0, () -> y.map(2, 0, 0));
        Wire.runs(y, 30);
        Due.is("BOOKS are the same", 1, () -> y.map(2, 0, 0));
        y.quality(0, 6, 1);
        Due.is("CUT", -1, () -> y.map(1, 0, 1));
        Due.is("nothing of nothing", 1, () -> new InternetHouse().map(2, 7, 7));
        Due.is("no BRIDGE", 0, () -> new InternetHouse().map(3, 7, 7));
    }

    private static void looks() {
        InternetHouse x = Wire.pair(2);
        x.node(1);
        Due.sentence("NoSuchElementException: there is no such NODE, ROW or number; IllegalArgumentException: what.");
        int[] width = {4, 3, 5, 5, 4, 5, 5, 8, 4, 3, 6, 5, 3, 5, 3, 8};
        Due.missing("NODE 3", () -> x.look(3, 0, 0, 0));
        Due.missing("NODE -1", () -> x.look(-1, 0, 0, 0));
        Due.missing("NODE before what", () -> x.look(3, 16, 0, 0));
        Due.argument("what -1", () -> x.look(0, -1, 0, 0));
        Due.argument("what 16", () -> x.look(0, 16, 0, 0));
        Due.argument("what before the BRIDGE", () -> x.look(2, 16, 0, 0));
        Due.state("a BRIDGE", () -> x.look(2, 15, 0, 0));
        Wire.known(x, 0, A1, A2, 5);
        Due.feed(x, "pass");
        x.load(0, 0);
        x.set(0, 5, 1, 0, 0);
        x.set(0, 6, 1, 0, 0);
        x.set(0, 8, 1, 0, 0);
        x.set(0, 9, A9, 5, 0);
        x.set(0, 10, net(1), 16, 1);
        x.set(0, 11, 0, 0, 0);
        x.set(0, 13, 0, Due.a(10, 0, 0, 50), 1100);
        x.set(0, 15, A2, 0, 0);
        Due.inject(x, 0, Wire.distance(A2, nets(7, 1, 3)));
        Due.inject(x, 0, Wire.hello(0, 5, 0));
        x.run(1);
        Due.inject(x, 0, Wire.linkRow(5, 9, new int[] {0, 1}, Wire.net(net(8), 16, 3, 0)));
        Due.inject(x, 0, Due.packet(17, 9, 0, 0, Due.a(99, 0, 0, 1), A2, Due.datagram(9, 5, new byte[0])));
        Due.inject(x, 0, Due.packet(2, 1, 0, 0, A2, Wire.GROUP, Due.join(Due.bytes(1), Due.word(Wire.GROUP))));
        Due.inject(x, 0, Due.packet(1, 9, 0, 0, A2, A1, Due.control(0, 0, 0, 0, new byte[0])));
        Due.inject(x, 0, Due.packet(1, 9, 0, 0, A2, A1, Due.control(3, 4, 100, 0, Due.packet(99, 9, 0, 0, A1, A9, new byte[0]))));
        Due.inject(x, 0, Wire.lease(3, 40, 1, Due.a(10, 0, 0, 50), 0, 0, A1, 0));
        Due.feed(x, "a");
        x.ask(0, 1);
        Due.inject(x, 0, Wire.reply(A2, A1, Wire.draw(0) >>> 16, 0, Wire.row(1, 100, "a", 5)));
        for (int what = 0; what < 16; what++) {
            int k = what;
            int rows = Wire.rows(x, 0, k);
            Due.is("what " + k + " has ROWS", 1, () -> rows > 0 ? 1 : 0);
            Due.missing("what " + k + ": ROW -1", () -> x.look(0, k, -1, 0));
            Due.missing("what " + k + ": a ROW more", () -> x.look(0, k, rows, 0));
            Due.missing("what " + k + ": number -1", () -> x.look(0, k, 0, -1));
            Due.missing("what " + k + ": a number more", () -> x.look(0, k, 0, width[k]));
            Due.is("what " + k + ": the last", 1, () -> x.look(0, k, rows - 1, width[k] - 1) < Long.MAX_VALUE ? 1 : 0);
        }
    }

    public static void main(String[] args) {
        distanceRows();
        distanceClock();
        neighbours();
        linkRows();
        linkClock();
        peers();
        tells();
        chosen();
        telling();
        policies();
        setting();
        maps();
        looks();
        Due.end("BoundsWaysTest");
    }
}
