/** Boundary cases that changes of single signs in the class had shown to be asked by no test. */
public final class BoundsLeftTest {
    private static final int A1 = Wire.A1;
    private static final int A2 = Wire.A2;
    private static final int A9 = Due.a(10, 0, 0, 9);
    private static final byte[] NONE = new byte[0];

    private static int net(int i) {
        return Due.a(20, i, 0, 0);
    }

    private static int c(int port, int host) {
        return Due.a(10, 0, port, host);
    }

    /** A NODE 0 of a kind with HOSTS that are down at its PORTS 0 to 3, NETS 10.0.p.0 / 24, .2 KNOWN to it. */
    private static InternetHouse wheel(int kind) {
        InternetHouse x = new InternetHouse();
        x.node(kind);
        for (int p = 0; p < 4; p++) {
            x.node(0);
            x.line(p, 4 + 4 * p, 1, 255, 148);
            x.set(1 + p, 0, 0, 0, 0);
            if (kind != 1) {
                x.address(p, c(p, 1), 24);
                Wire.known(x, p, c(p, 1), c(p, 2), 5 + 4 * p);
            }
        }
        x.run(2);
        return x;
    }

    /** How many of the latest FRAMES of a PORT have this PACKET. */
    private static int among(InternetHouse x, int port, byte[] packet) {
        int many = 0;
        for (int i = 0; i < 4; i++) {
            try {
                byte[] f = Wire.sent(x, port, i);
                many += java.util.Arrays.equals(packet, java.util.Arrays.copyOfRange(f, 3, Math.max(3, f.length - 2))) ? 1 : 0;
            } catch (java.util.NoSuchElementException e) {
                return many;
            }
        }
        return many;
    }

    private static void oneBit() {
        Due.sentence("an ADDRESS with BITS (its NET; 1 to 31).");
        InternetHouse x = new InternetHouse();
        x.node(2);
        x.node(2);
        x.line(0, 4, 1, 255, 148);
        Due.argument("ADDRESS 0 with BITS 1", () -> x.address(0, 0, 1));
        Due.argument("ALL with BITS 1", () -> x.address(0, -1, 1));
        x.address(0, A1, 1);
        x.address(4, A2, 1);
        Due.argument("a NET of BITS 1 has it", () -> x.address(1, Due.a(127, 0, 0, 1), 24));
        Due.argument("it has an ADDRESS in its NET of BITS 1", () -> x.address(1, Due.a(99, 0, 0, 1), 1));
        Due.is("the other half", 1, () -> x.address(1, Due.a(128, 0, 0, 1), 1));
        x.address(1, 0, 0);
        Due.is("WAY", 256L * Due.a(127, 255, 255, 255), () -> x.way(0, 0, Integer.MAX_VALUE));
        Due.is("no WAY", -1, () -> x.way(0, 0, Integer.MIN_VALUE));
        Due.is("1 LINE", 1, () -> x.map(0, 0, A2));
        x.echo(0, A2, 0, 32);
        x.echo(0, Due.a(200, 0, 0, 1), 0, 32);
        x.run(10);
        Due.is("UNREACHABLE of one's own comes in", 3, () -> x.look(0, 13, 0, 1));
        Due.is("answered", A2, () -> x.look(0, 13, 1, 3));
        x.set(0, 6, 1, 0, 0);
        x.set(1, 6, 1, 0, 0);
        Due.is("D", 10, () -> x.map(1, 0, 1));
        x.set(0, 11, 0, 0, 0);
        Due.inject(x, 1, Due.packet(17, 9, 0, 0, Due.a(200, 0, 0, 1), A2, Due.datagram(5, 5, NONE)));
        Due.is("an OUTSIDE PORT of BITS 1", 1, () -> Wire.rows(x, 0, 11));
        InternetHouse y = new InternetHouse();
        y.node(0);
        y.node(0);
        y.line(0, 4, 1, 255, 148);
        y.address(0, A1, 1);
        y.set(0, 13, 0, Due.a(127, 0, 0, 1), 1010);
        Due.inject(y, 0, Wire.lease(1, 7, 1, 0, 0, 0, 0, 0));
        y.run(1);
        Due.is("FROM its ADDRESS", A1, () -> Wire.u32(Wire.sent(y, 0, 0), 13));
        Due.is("OFFERS BITS 1", 1, () -> Wire.data(y, 0, 0)[8]);
        y.set(0, 14, 1, 1, 0);
        Due.inject(y, 1, Wire.lease(2, 1, 0, A1, 24, 100, A2, 0));
        Due.inject(y, 1, Wire.lease(4, 1, 0, A1, 24, 100, A2, 0));
        Due.is("GIVEN an ADDRESS that another PORT has with BITS 1", 1, () -> Wire.rows(y, 0, 1));
    }

    private static void down() {
        Due.sentence("FRAMES in ROWS, all but what was set, loaded, LENT or OFFERED");
        InternetHouse x = new InternetHouse();
        x.node(1);
        x.node(0);
        x.node(0);
        x.line(0, 4, 1, 255, 148);
        x.line(1, 8, 1, 255, 148);
        x.run(6);
        x.quality(1, 6, 1);
        for (int k = 0; k < 4; k++) {
            Wire.frame(x, 0, Due.frame(200, 100, 3, Due.bytes(64 + k, 0)));
        }
        x.set(0, 0, 0, 0, 0);
        x.set(0, 0, 1, 0, 0);
        x.quality(1, 6, 0);
        int sent = x.count(0, 0);
        x.run(1);
        Due.is("of all CLASSES", sent, () -> x.count(0, 0));
        Due.sentence("DEFICITS and TURN 0, TOKENS SIZE.");
        for (int fell = 0; fell < 2; fell++) {
            InternetHouse y = wheel(1);
            y.run(4);
            // 40 of CLASS 0 first: DEFICIT 24, TURN 0 are left
            Wire.frame(y, 0, Due.frame(200, 100, 3, Due.join(Due.bytes(64), new byte[34])));
            y.run(1);
            if (fell == 1) {
                y.set(0, 0, 0, 0, 0);
                y.set(0, 0, 1, 0, 0);
                y.run(6);
            }
            y.quality(1, 6, 1);
            Wire.frame(y, 0, Due.frame(200, 100, 3, Due.join(Due.bytes(64, 9), new byte[13])));
            Wire.frame(y, 0, Due.frame(200, 100, 3, Due.join(Due.bytes(65, 9), new byte[13])));
            y.quality(1, 6, 0);
            // a NOTICE goes first
            y.run(2);
            Due.is("20 bytes of CLASS 0 and of CLASS 1", fell, () -> y.seen(1, 0, 3) & 3);
            Due.is("a PACKET", 3, () -> y.seen(1, 0, 2));
        }
        Due.sentence("an ADDRESS it BORROWS are gone");
        InternetHouse b = new InternetHouse();
        b.node(0);
        b.node(0);
        b.line(3, 4, 1, 255, 148);
        b.set(1, 0, 0, 0, 0);
        b.set(0, 14, 3, 1, 0);
        b.run(1);
        int id = Wire.u16(Wire.data(b, 3, 0), 2);
        Due.inject(b, 3, Wire.lease(2, 3, id, A1, 24, 100, A2, 0));
        Due.inject(b, 3, Wire.lease(4, 3, id, A1, 24, 100, A2, 0));
        Due.is("at PORT 3", 1, () -> Wire.rows(b, 0, 1));
        b.set(0, 0, 0, 0, 0);
        Due.is("gone", 0, () -> Wire.rows(b, 0, 1));
        b.set(0, 0, 1, 0, 0);
        Due.sentence("NUMBER (0 before) becomes a DRAW");
        Due.inject(b, 3, Wire.lease(2, 3, id, A1, 24, 100, A2, 0));
        Due.inject(b, 3, Wire.lease(4, 3, id, A1, 24, 100, A2, 0));
        Due.is("the NUMBER from before", 0, () -> Wire.rows(b, 0, 1));
        Due.inject(b, 3, Wire.lease(2, 3, 0, A1, 24, 100, A2, 0));
        Due.inject(b, 3, Wire.lease(4, 3, 0, A1, 24, 100, A2, 0));
        Due.is("0", 1, () -> Wire.rows(b, 0, 1));
        Due.sentence("NUMBER (2 bytes: 1 more with each, from 1)");
        InternetHouse t = wheel(2);
        t.set(0, 12, 1, c(3, 2), 9);
        t.route(0, net(1), 16, 1, 1);
        for (int i = 0; i < 4; i++) {
            if (i == 2) {
                t.set(0, 0, 0, 0, 0);
                t.set(0, 0, 1, 0, 0);
                Wire.known(t, 3, c(3, 1), c(3, 2), 5);
                t.run(1);
            }
            Due.inject(t, 0, Due.packet(99, 9, 0, 0, c(0, 2), net(1), NONE));
            t.run(1);
            int want = 1 + i % 2;
            Due.is("from 1, also when it was down", want, () -> Wire.u16(Wire.data(t, 3, 0), 0));
        }
        Due.sentence("is sent with the next NUMBER (from 1), and is under way;");
        InternetHouse o = wheel(2);
        o.set(0, 8, 1, 0, 0);
        o.set(0, 9, c(3, 2), 5, 0);
        o.set(0, 10, net(1), 16, 1);
        for (int i = 0; i < 2; i++) {
            Wire.known(o, 3, c(3, 1), c(3, 2), 5);
            outer(o, 3, Wire.open(0, 5, 7));
            outer(o, 3, Wire.tell(1, net(2), 16, c(3, 2), 0, 0, 100, 0, 5));
            Due.is("HEARD with NUMBER 1", 1, () -> o.look(0, 6, 0, 3));
            o.run(4);
            Due.is("TELL with NUMBER 1", 1, () -> among(o, 3, from(o, 3, Wire.tell(1, net(1), 16, c(3, 1), 0, 0, 100, 0, 1))));
            o.set(0, 0, 0, 0, 0);
            o.set(0, 0, 1, 0, 0);
        }
    }

    /** An own PACKET of OUTER as it was sent last with this DATA: with the NAME that it had. */
    private static byte[] from(InternetHouse x, int port, byte[] data) {
        for (int i = 0; i < 4; i++) {
            if (java.util.Arrays.equals(data, Wire.data(x, port, i))) {
                byte[] f = Wire.sent(x, port, i);
                return java.util.Arrays.copyOfRange(f, 3, f.length - 2);
            }
        }
        return NONE;
    }

    private static void outer(InternetHouse x, int p, byte[] data) {
        Due.inject(x, p, Due.packet(79, 9, 0, 0, c(p, 2), c(p, 1), data));
    }

    private static void bridges() {
        Due.sentence("At CLOCK one that was HEARD 8 UNITS ago or more is gone.");
        InternetHouse x = wheel(1);
        for (int p = 0; p < 4; p++) {
            Wire.frame(x, p, Wire.notice(100, 5, 300, p, 0));
        }
        Due.is("the ROOT PORT", 1, () -> x.bridge(0, 0));
        Due.is("BLOCKED", 3, () -> x.bridge(3, 0));
        x.run(7);
        Due.is("7 UNITS", 3, () -> x.bridge(3, 0));
        x.run(1);
        for (int p = 0; p < 4; p++) {
            int k = p;
            Due.is("8 UNITS, PORT " + k, 2, () -> x.bridge(k, 0));
        }
    }

    private static void groups() {
        Due.sentence("by each other PORT with an ADDRESS and a whole LINE and MEMBERS of it, or a NEIGHBOUR of LINK;");
        InternetHouse x = wheel(2);
        x.set(0, 6, 1, 0, 0);
        byte[] p = Due.packet(99, 9, 7, 0, c(0, 2), Wire.GROUP, NONE);
        byte[] want = Due.packet(99, 8, 7, 0, c(0, 2), Wire.GROUP, NONE);
        Due.inject(x, 3, Due.packet(89, 1, 0, 0, c(3, 2), -1, Due.bytes(1, 0, 5)));
        Due.inject(x, 0, p);
        x.run(2);
        Due.is("a NEIGHBOUR at PORT 3", 1, () -> among(x, 3, want));
        Due.is("none at PORT 2", 0, () -> among(x, 2, want));
        x.quality(3, 6, 1);
        Due.inject(x, 0, p);
        x.run(1);
        x.quality(3, 6, 0);
        x.run(1);
        Due.is("its LINE was CUT", 1, () -> among(x, 3, want));
        x.set(0, 6, 0, 0, 0);
        Due.inject(x, 0, p);
        x.run(2);
        Due.is("no NEIGHBOUR any more", 1, () -> among(x, 3, want));
        Due.sentence("if THE WAY to its FROM (with FROM 0 for s) goes by that PORT");
        for (int i = 0; i < 4; i++) {
            InternetHouse y = wheel(2);
            for (int k = 0; k < 4; k++) {
                y.route(0, net(1), 16, c(k, 2), 1);
            }
            Due.inject(y, 2, Due.packet(2, 1, 0, 0, c(2, 2), Wire.GROUP, Due.join(Due.bytes(1), Due.word(Wire.GROUP))));
            byte[] g = Due.packet(99, 9, 7, 0, net(1) + i, Wire.GROUP, NONE);
            Due.inject(y, 0, g);
            y.run(2);
            // s is 20 + 1 + i
            int n = (21 + i) % 4 == 0 ? 1 : 0;
            int from = net(1) + i;
            Due.is("s " + (21 + i), n, () -> among(y, 2, Due.packet(99, 8, 7, 0, from, Wire.GROUP, NONE)));
        }
        InternetHouse z = wheel(2);
        z.set(0, 8, 1, 0, 0);
        z.set(0, 9, c(0, 2), 5, 0);
        outer(z, 0, Wire.open(0, 5, 7));
        outer(z, 0, Wire.tell(1, net(1), 16, c(0, 2), 0, 0, 100, 0, 5));
        Due.inject(z, 2, Due.packet(2, 1, 0, 0, c(2, 2), Wire.GROUP, Due.join(Due.bytes(1), Due.word(Wire.GROUP))));
        Due.inject(z, 0, Due.packet(99, 9, 7, 0, net(1), Wire.GROUP, NONE));
        z.run(2);
        Due.is("THE WAY is of KIND 4", 1, () -> among(z, 2, Due.packet(99, 8, 7, 0, net(1), Wire.GROUP, NONE)));
        Due.sentence("A PACKET goes by it: PASSED on PORT to NEXT (KIND 0, or TO ALL or a GROUP: to TO); into the TUNNEL.");
        z.echo(0, net(1), 0, 32);
        z.run(4);
        int name = (int) z.look(0, 15, 0, 6) - 1;
        byte[] echo = Due.packet(1, 32, name, 0, c(0, 1), net(1), Due.control(8, 0, 0, 0, NONE));
        Due.is("its own by KIND 4", 1, () -> Math.min(1, among(z, 0, echo) + among(z, 0, Due.packet(1, 32, name - 1, 0, c(0, 1), net(1), Due.control(8, 0, 0, 0, NONE)))));
        Due.sentence("own PACKETS to it (by THE WAY) are not longer");
        for (int bytes = 34; bytes < 36; bytes++) {
            InternetHouse u = wheel(2);
            u.set(0, 12, 0, c(3, 2), 0);
            u.route(0, net(1), 16, 0, 1);
            byte[] q = Due.packet(99, 9, 0, 0, c(0, 1), net(1), new byte[8]);
            Due.inject(u, 0, Due.packet(1, 9, 0, 0, c(0, 2), c(0, 1), Due.control(3, 4, 60, 0, q)));
            u.echo(0, net(1), bytes, 32);
            int sent = u.count(0, 0);
            u.run(4);
            int many = bytes == 34 ? 1 : 2;
            Due.is("into a TUNNEL, LENGTH " + (26 + bytes), sent + many, () -> u.count(0, 0));
        }
    }

    private static void distance() {
        Due.sentence("each ROW with a COST below 16 of a time 30 UNITS ago or more");
        InternetHouse x = wheel(2);
        x.set(0, 5, 1, 0, 0);
        x.run(1);
        Due.inject(x, 3, Due.packet(9, 1, 0, 0, c(3, 2), -1, Due.join(Due.word(net(1)), Due.bytes(16, 14), Due.word(net(2)), Due.bytes(16, 1))));
        Due.inject(x, 0, Due.packet(9, 1, 0, 0, c(0, 2), -1, Due.join(Due.word(c(3, 0)), Due.bytes(24, 1))));
        Due.is("the NET of PORT 3 is of KIND 0", 2, () -> Wire.rows(x, 0, 2));
        x.run(29);
        Due.is("29 UNITS", 256L * c(3, 2) + 3, () -> x.way(0, 0, net(1)));
        x.run(1);
        Due.is("30 UNITS: COST 15 is 16", 16, () -> x.look(0, 2, 0, 2));
        Due.is("COST 2 is 16", 16, () -> x.look(0, 2, 1, 2));
        Due.is("no WAY any more", -1, () -> x.way(0, 0, net(2)));
        x.run(1);
        Due.is("it is told at once", 33, () -> x.seen(3, 0, -2));
        Due.sentence("with the least COST of THE WAY to NEXT (KIND 0 as 0);");
        InternetHouse y = wheel(2);
        y.set(0, 5, 1, 0, 0);
        y.set(0, 8, 1, 0, 0);
        y.set(0, 9, c(0, 2), 5, 0);
        y.set(0, 9, c(3, 2), 6, 0);
        outer(y, 0, Wire.open(0, 5, 1));
        outer(y, 3, Wire.open(0, 6, 2));
        Due.inject(y, 1, Due.packet(9, 1, 0, 0, c(1, 2), -1, Due.join(Due.word(net(1)), Due.bytes(16, 6), Due.word(net(2)), Due.bytes(16, 5))));
        outer(y, 0, Wire.tell(1, net(5), 16, net(1) + 1, 0, 0, 100, 0, 5));
        outer(y, 3, Wire.tell(1, net(5), 16, net(2) + 1, 0, 0, 100, 0, 6));
        Due.is("COST 6 of KIND 3 against 7", net(2) + 1, () -> y.look(0, 7, 0, 2));
        y.route(0, net(1), 16, c(2, 2), 200);
        Due.is("COST 200 of KIND 1 is more", net(2) + 1, () -> y.look(0, 7, 0, 2));
        y.route(0, net(1), 16, c(2, 2), -1);
        y.route(0, net(1), 16, c(2, 2), 1);
        Due.is("COST 1 of KIND 1 is less", net(1) + 1, () -> y.look(0, 7, 0, 2));
        Due.sentence("NEXT and PORT of THE WAY to its NEXT");
        for (int i = 0; i < 4; i++) {
            InternetHouse z = wheel(2);
            z.set(0, 8, 1, 0, 0);
            z.set(0, 9, c(0, 2), 5, 0);
            outer(z, 0, Wire.open(0, 5, 1));
            for (int k = 0; k < 4; k++) {
                z.route(0, net(1), 16, c(k, 2), 1);
            }
            outer(z, 0, Wire.tell(1, net(5), 16, net(1) + i, 0, 0, 100, 0, 5));
            int k = (21 + i) % 4;
            Due.is("with FROM 0 for s", 256L * c(k, 2) + k, () -> z.way(0, 77, net(5)));
        }
    }

    private static byte[] row(int from, int area, int id, int number, byte[] links, byte[]... nets) {
        return Due.packet(89, 1, 0, 0, from, -1, Due.join(Due.bytes(2, area, id, id), Due.word(number), Due.bytes(links.length / 2), links,
            Due.bytes(nets.length), Due.join(nets)));
    }

    private static byte[] hello(int from, int area, int id, int... heard) {
        return Due.packet(89, 1, 0, 0, from, -1, Due.join(Due.bytes(1, area, id), Due.bytes(heard)));
    }

    private static void links() {
        Due.sentence("When a NEIGHBOUR comes to HEAR, all ROWS of the BOOK (rising IDS) are sent to it so.");
        InternetHouse x = wheel(2);
        x.set(0, 6, 1, 0, 0);
        Due.inject(x, 0, hello(c(0, 2), 0, 5, 0));
        x.run(3);
        Due.inject(x, 0, row(c(0, 2), 0, 5, 3, NONE));
        Due.inject(x, 3, hello(c(3, 2), 0, 7));
        x.run(1);
        x.capture(3, 1);
        Due.inject(x, 3, hello(c(3, 2), 0, 7, 0));
        x.run(3);
        Due.said("of ID 0, 5; its own, that names 7 now", rowsTold(x, 3), "0 5 0 ");
        Due.inject(x, 3, hello(c(3, 2), 0, 7, 0));
        x.run(2);
        Due.said("it HEARS already", rowsTold(x, 3), "0 5 0 ");
        Due.inject(x, 3, hello(c(3, 2), 0, 7));
        x.run(1);
        Due.inject(x, 3, hello(c(3, 2), 0, 7, 0));
        x.run(1);
        Due.said("it comes to HEAR again", rowsTold(x, 3).substring(0, 8), "0 5 0 0 ");
        Due.sentence("who OWES THANKS for a ROW that is in the BOOK with this NUMBER, sent 10 UNITS ago or more, gets it anew");
        InternetHouse v = wheel(2);
        v.set(0, 7, 1, 1, 0);
        v.set(0, 7, 3, 2, 0);
        v.set(0, 6, 1, 0, 0);
        for (int p = 1; p < 4; p += 2) {
            Due.inject(v, p, hello(c(p, 2), (p + 1) / 2, 5 + p, 0));
        }
        v.run(5);
        for (int p = 1; p < 4; p += 2) {
            Due.inject(v, p, hello(c(p, 2), (p + 1) / 2, 5 + p, 0));
            v.capture(p, 1);
        }
        v.run(5);
        Due.said("sent at 3: 9 UNITS, PORT 1", rowsTold(v, 1), "");
        Due.said("sent at 3: 9 UNITS, PORT 3", rowsTold(v, 3), "");
        v.run(2);
        Due.said("10 UNITS, PORT 1 of AREA 1", rowsTold(v, 1), "0 ");
        Due.said("10 UNITS, PORT 3 of AREA 2", rowsTold(v, 3), "0 ");
        Due.sentence("LINKS: each ID that HEARS on PORTS of the AREA, with the least COST of these (rising IDS); NETS of KIND 0 of its PORTS there, with the PORT's COST, mark 0 (by PORTS);");
        InternetHouse y = wheel(2);
        for (int p = 0; p < 4; p++) {
            y.set(0, 2, p, 70 + p, 0);
            Due.inject(y, p, hello(c(p, 2), 0, p == 3 ? 9 : 5, 0));
        }
        y.set(0, 6, 1, 0, 0);
        for (int p = 3; p >= 0; p--) {
            Due.inject(y, p, hello(c(p, 2), 0, p == 3 ? 9 : 5, 0));
        }
        y.run(6);
        byte[] own = Due.bytes(2, 5, 70, 9, 73, 4);
        for (int p = 0; p < 4; p++) {
            own = Due.join(own, Wire.net(c(p, 0), 24, 70 + p, 0));
        }
        byte[] sent = NONE;
        for (int i = 0; i < 4; i++) {
            byte[] d = Wire.data(y, 3, i);
            sent = d.length > 20 && sent.length == 0 ? d : sent;
        }
        Due.said("own ROW", java.util.Arrays.toString(sent.length < 8 ? sent : java.util.Arrays.copyOfRange(sent, 8, sent.length)), java.util.Arrays.toString(own));
        Due.sentence("in AREA 0 all NETS of its other AREAS (of its PORTS there, with the PORT's COST, and those FOUND by mark 0)");
        InternetHouse z = wheel(2);
        z.set(0, 7, 0, 1, 0);
        z.set(0, 7, 1, 2, 0);
        z.set(0, 6, 1, 0, 0);
        Due.inject(z, 0, hello(c(0, 2), 1, 5, 0));
        Due.inject(z, 1, hello(c(1, 2), 2, 6, 0));
        Due.inject(z, 3, hello(c(3, 2), 0, 7, 0));
        z.run(3);
        Due.inject(z, 0, row(c(0, 2), 1, 5, 1, Due.bytes(0, 1), Wire.net(net(1), 16, 7, 0), Wire.net(net(2), 16, 4, 0), Wire.net(net(3), 16, 1, 1)));
        Due.inject(z, 1, row(c(1, 2), 2, 6, 1, Due.bytes(0, 1), Wire.net(net(1), 16, 5, 0), Wire.net(net(2), 17, 4, 0), Wire.net(net(2), 16, 6, 0)));
        z.run(2);
        own = Due.join(Due.bytes(1, 7, 10, 7), Wire.net(c(2, 0), 24, 10, 0), Wire.net(c(3, 0), 24, 10, 0), Wire.net(c(0, 0), 24, 10, 1),
            Wire.net(c(1, 0), 24, 10, 1), Wire.net(net(1), 16, 15, 1), Wire.net(net(2), 16, 14, 1), Wire.net(net(2), 17, 14, 1));
        sent = NONE;
        for (int i = 0; i < 4; i++) {
            byte[] d = Wire.data(z, 3, i);
            sent = d.length > 40 && sent.length == 0 ? d : sent;
        }
        Due.said("own ROW of AREA 0", java.util.Arrays.toString(sent.length < 8 ? sent : java.util.Arrays.copyOfRange(sent, 8, sent.length)), java.util.Arrays.toString(own));
        Due.sentence("5 WAYS of KIND 2 (NET without a sign, BITS, COST, NEXT, PORT)");
        InternetHouse u = wheel(2);
        u.set(0, 6, 1, 0, 0);
        int[] hosts = {200, 9, 100};
        for (int i = 0; i < 3; i++) {
            Due.inject(u, 3, hello(c(3, hosts[i]), 0, 5 + i, 0));
        }
        Due.inject(u, 0, hello(c(0, 250), 0, 8, 0));
        u.run(1);
        for (int i = 0; i < 3; i++) {
            Due.inject(u, 3, row(c(3, hosts[i]), 0, 5 + i, 1, Due.bytes(0, 1), Wire.net(net(1), 16, 7, 0)));
        }
        Due.inject(u, 0, row(c(0, 250), 0, 8, 1, Due.bytes(0, 1), Wire.net(net(1), 16, 7, 0)));
        int[] next = {c(0, 250), c(3, 9), c(3, 100), c(3, 200)};
        Due.is("4 ROWS", 4, () -> Wire.rows(u, 0, 5));
        for (int i = 0; i < 4; i++) {
            int k = i;
            Due.is("NEXT " + k, next[k], () -> u.look(0, 5, k, 3));
        }
        Due.sentence("At CLOCK, ahead of the HELLOS, those heard 12 UNITS ago or more go.");
        u.run(10);
        Due.is("11 UNITS: a WAY", 1, () -> u.way(0, 0, net(1)) > 0 ? 1 : 0);
        u.run(1);
        Due.is("12 UNITS: none", -1, () -> u.way(0, 0, net(1)));
    }

    /** Of which IDS ROWS were taken down on a LINE. */
    private static String rowsTold(InternetHouse x, int line) {
        x.capture(line, 2);
        String out = Due.out(x);
        StringBuilder s = new StringBuilder();
        for (int at = 0; at < out.length(); at += 6 + out.charAt(at + 5)) {
            int data = at + 6 + 3 + 18;
            if (out.charAt(at + 8) == 3 && out.charAt(data) == 2) {
                s.append((int) out.charAt(data + 3)).append(' ');
            }
        }
        return s.toString();
    }

    private static void tellings() {
        Due.sentence("of each PEER that is UP with nothing under way: the first NET (in that order) that it is to be told otherwise than it was TOLD (TELL), or that it was TOLD and is not to be told any more (TAKE BACK)");
        InternetHouse x = wheel(2);
        x.set(0, 8, 1, 0, 0);
        for (int p = 0; p < 3; p++) {
            x.set(0, 9, c(p, 2), 5 + p, 0);
            outer(x, p, Wire.open(0, 5 + p, p));
        }
        x.set(0, 10, net(1), 16, 1);
        x.run(2);
        outer(x, 1, Due.bytes(5, 0, 1));
        x.set(0, 10, net(2), 16, 1);
        x.run(1);
        Due.is("the first has something under way: NUMBER 1", 1, () -> Wire.u16(Wire.data(x, 0, 0), 1));
        Due.is("the second has not: NUMBER 2", 2, () -> Wire.u16(Wire.data(x, 1, 0), 1));
        outer(x, 0, Due.bytes(5, 0, 1));
        Due.is("the first was TOLD", 1, () -> x.look(0, 6, 0, 4));
        Wire.load(x, 0, 1, "out peer 0 net 20.1.0.0/16 16 16 refuse");
        x.run(1);
        byte[] back = Wire.takeBack(2, net(1), 16);
        Due.is("TAKE BACK of the first one", 1, () -> java.util.Arrays.equals(back, Wire.data(x, 0, 0)) ? 1 : 0);
        outer(x, 0, Due.bytes(5, 0, 2));
        Due.is("with its THANKS", 0, () -> x.look(0, 6, 0, 4));
        x.run(1);
        byte[] tell = Wire.tell(3, net(2), 16, c(0, 1), 0, 0, 100, 0, 1);
        Due.is("then TELL of the other", 1, () -> java.util.Arrays.equals(tell, Wire.data(x, 0, 0)) ? 1 : 0);
        InternetHouse y = wheel(2);
        y.set(0, 8, 1, 0, 0);
        y.set(0, 9, c(0, 2), 5, 0);
        outer(y, 0, Wire.open(0, 5, 1));
        int[] bits = {18, 16, 17};
        for (int i = 0; i < 3; i++) {
            y.set(0, 10, net(1), bits[i], 1);
            told(y, Wire.tell(1 + i, net(1), bits[i], c(0, 1), 0, 0, 100, 0, 1));
        }
        y.set(0, 10, net(1), 18, 0);
        y.set(0, 10, net(1), 16, 0);
        Wire.load(y, 0, 1, "out go med 5");
        told(y, Wire.takeBack(4, net(1), 16));
        told(y, Wire.tell(5, net(1), 17, c(0, 1), 0, 5, 100, 0, 1));
        told(y, Wire.takeBack(6, net(1), 18));
        Wire.load(y, 0, 1, "out refuse");
        told(y, Wire.takeBack(7, net(1), 17));
        Due.is("nothing is TOLD any more", 0, () -> y.look(0, 6, 0, 4));
    }

    /** Within 3 UNITS this, and no TELL or TAKE BACK before, is sent on PORT 0; then its THANKS come. */
    private static void told(InternetHouse x, byte[] data) {
        byte[] got = NONE;
        for (int i = 0; i < 3 && got.length == 0; i++) {
            x.run(1);
            byte[] d = Wire.data(x, 0, 0);
            got = d.length > 7 && Wire.u16(d, 1) == Wire.u16(data, 1) ? d : NONE;
        }
        Due.said("in order", java.util.Arrays.toString(got), java.util.Arrays.toString(data));
        outer(x, 0, Due.bytes(5, data[1], data[2]));
    }

    private static final int UNA = (Wire.draw(0) >>> 16 << 16 | Wire.draw(Wire.draw(0)) >>> 16) + 1;

    private static void in(InternetHouse x, int number, int ack, int flags) {
        Due.inject(x, 4, Wire.segment(number, ack, flags, 400, NONE));
    }

    private static InternetHouse open() {
        InternetHouse x = Wire.pair(0);
        x.set(0, 0, 0, 0, 0);
        Wire.known(x, 4, A2, A1, 1);
        x.socket(1, 2, 80);
        in(x, 100, 0, 2);
        in(x, 101, UNA, 16);
        x.run(3);
        return x;
    }

    private static void streams() {
        Due.sentence("PART bytes from UNA on likewise are sent again, no round trip is measured, CARE is EDGE + 144;");
        InternetHouse x = open();
        Due.feed(x, new byte[96]);
        x.write(1);
        x.run(4);
        for (int i = 0; i < 3; i++) {
            in(x, 101, UNA, 16);
        }
        in(x, 101, UNA + 96, 16);
        Due.is("S", 0, () -> x.state(1, 7));
        Due.is("WAIT", 12, () -> x.state(1, 6));
        Due.sentence("TRIES 0; the TIMER is off, or, if FLIGHT is above 0, set anew.");
        Due.is("nothing is under way", 0, () -> x.state(1, 9));
        x.run(40);
        Due.is("the TIMER is off: WAIT is not doubled", 12, () -> x.state(1, 6));
        Due.sentence("TIME WAIT: 20 UNITS from when it began, then CLOSED (at CLOCK, with the TIMER).");
        InternetHouse y = open();
        y.close(1, 0);
        in(y, 101, UNA + 1, 17);
        y.run(19);
        Due.is("19 UNITS: no TRIES", 0, () -> y.state(1, 15));
        Due.is("19 UNITS: WAIT as it was", 4, () -> y.state(1, 6));
        y.run(1);
        Due.is("CLOSED", 0, () -> y.state(1, 0));
        Due.is("no FAILURE", 0, () -> y.state(1, 1));
    }

    private static void names() {
        Due.sentence("ANSWER: 1, NUMBER (2), CODE (0 there are such;");
        for (int type = 0; type < 4; type++) {
            InternetHouse x = Wire.pair(0);
            x.set(1, 0, 0, 0, 0);
            x.set(0, 15, A2, 0, 0);
            Due.feed(x, "a");
            x.ask(0, 1);
            Due.inject(x, 0, Due.packet(53, 9, 0, 0, A2, A1, Due.join(Due.bytes(type), Wire.half(Wire.draw(0) >>> 16), Due.bytes(0, 1), Wire.row(1, 9, "a", 7))));
            int want = type == 1 ? 0 : -1;
            Due.is("first byte " + type, want, () -> x.answer(0, 0, 0));
        }
        Due.sentence("of the CACHE the ROWS of KIND 2 of the NAME or the lowest above it (not of \".\") with an ADDRESS in the CACHE");
        InternetHouse x = Wire.pair(0);
        x.set(1, 0, 0, 0, 0);
        x.set(0, 15, A2, 0, 0);
        x.route(0, 0, 0, A2, 1);
        Wire.known(x, 0, A1, A2, 5);
        x.run(2);
        Due.feed(x, "q");
        x.ask(0, 1);
        Due.inject(x, 0, Wire.reply(A2, A1, Wire.draw(0) >>> 16, 1, Wire.row(2, 400, "a.b.c.d", "n"), Wire.row(1, 400, "n", Due.a(77, 0, 0, 1)),
            Wire.row(2, 400, "b.c.d", "m"), Wire.row(1, 400, "m", Due.a(77, 0, 0, 2))));
        x.run(3);
        String[] name = {"a.b.c.d", "x.b.c.d", "x.y.c.d"};
        int[] asked = {Due.a(77, 0, 0, 1), Due.a(77, 0, 0, 2), A2};
        for (int i = 0; i < 3; i++) {
            Due.feed(x, name[i]);
            x.ask(0, 4);
            x.run(1);
            int k = i;
            Due.is(name[k], asked[k], () -> Wire.u32(Wire.sent(x, 0, 0), 3 + 14));
        }
    }

    public static void main(String[] args) {
        oneBit();
        down();
        bridges();
        groups();
        distance();
        links();
        tellings();
        streams();
        names();
        Due.end("BoundsLeftTest");
    }
}
