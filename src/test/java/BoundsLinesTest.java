/** Boundary cases of 'THE WORLD', of FRAMES and their ROWS, and of promises 1 to 7, 12 to 15, 30 to 32. */
public final class BoundsLinesTest {
    private static final int A1 = Wire.A1;
    private static final int A2 = Wire.A2;

    private static void tape() {
        InternetHouse x = new InternetHouse();
        Due.sentence("TAPE and OUT: bytes, at most 512, none at first.");
        Due.is("OUT has none", 0, () -> x.octet(-1));
        Due.argument("TAPE has none", () -> x.end(1));
        Due.sentence("Twenty bytes, five times four, come to the TAPE: how many it has.");
        for (int i = 1; i <= 25; i++) {
            int want = 20 * i;
            Due.is("feed", want, () -> x.feed(-1, 0x7FFFFFFF, 0x80000000, 0, 1));
        }
        Due.sentence("IllegalStateException: there would be more than 512.");
        Due.state("520", () -> x.feed(0, 0, 0, 0, 0));
        Due.is("the TAPE stays", 500, () -> Wire.tape(x));
        Due.is("cut to 493", 493, () -> x.end(493));
        Due.state("513", () -> x.feed(0, 0, 0, 0, 0));
        Due.is("cut to 492", 492, () -> x.end(492));
        Due.is("512 are not more", 512, () -> x.feed(0, 0, 0, 0, 0));
        Due.state("532", () -> x.feed(0, 0, 0, 0, 0));
        Due.sentence("IllegalArgumentException: it has less, or n is below 0.");
        Due.argument("513", () -> x.end(513));
        Due.argument("-1", () -> x.end(-1));
        Due.argument("least int", () -> x.end(Integer.MIN_VALUE));
        Due.is("all of it", 512, () -> x.end(512));
        Due.is("none of it", 0, () -> x.end(0));
        Due.argument("it has none", () -> x.end(1));
        Due.is("0 of none", 0, () -> x.end(0));
    }

    private static void draws() {
        Due.sentence("To DRAW: CHANCE becomes 1664525 CHANCE + 1013904223 (modulo 2^32); the DRAW is its upper 16 bits.");
        long[] seeds = {0, 1, -1, Integer.MAX_VALUE, Integer.MIN_VALUE, 2147480000L, -77777};
        for (long seed : seeds) {
            InternetHouse x = new InternetHouse();
            x.begin((int) seed);
            x.node(0);
            x.node(0);
            x.line(0, 4, 1, 255, 148);
            x.set(0, 14, 0, 1, 0);
            x.run(1);
            long chance = ((seed & 0xFFFFFFFFL) * 1664525L + 1013904223L) % (1L << 32);
            Due.is("NUMBER of a WANT, CHANCE " + seed, chance / 65536, () -> Wire.u16(Wire.data(x, 0, 0), 2));
        }
        Due.sentence("`InternetHouse()`: CHANCE 0; nothing is there.");
        InternetHouse y = new InternetHouse();
        Due.missing("no NODE", () -> y.count(0, 0));
        Due.missing("no LINE", () -> y.quality(0, 0, 0));
        Due.missing("no SOCKET", () -> y.state(0, 0));
        Due.missing("no PORT", () -> y.seen(0, 0, -1));
        y.node(0);
        y.node(0);
        y.line(0, 4, 1, 255, 148);
        y.set(0, 14, 0, 1, 0);
        y.run(1);
        Due.is("CHANCE 0", 1013904223 >>> 16, () -> Wire.u16(Wire.data(y, 0, 0), 2));
    }

    private static void addresses() {
        InternetHouse x = new InternetHouse();
        x.node(0);
        Due.sentence("GROUPS are those whose highest byte is 224.");
        Due.is("223.255.255.255 is none", 1, () -> x.address(0, Due.a(223, 255, 255, 255), 24));
        Due.argument("224.0.0.0", () -> x.address(0, Due.a(224, 0, 0, 0), 24));
        Due.argument("224.255.255.255", () -> x.address(0, Due.a(224, 255, 255, 255), 24));
        Due.is("225.0.0.0 is none", 1, () -> x.address(0, Due.a(225, 0, 0, 0), 24));
        Due.is("255.255.255.254 is not ALL", 1, () -> x.address(0, -2, 24));
        Due.argument("ALL is -1", () -> x.address(0, -1, 24));
        Due.is("225.0.0.0 is no GROUP", 1, () -> x.set(0, 15, Due.a(225, 0, 0, 0), 0, 0));
        Due.argument("223.255.255.255 is no GROUP", () -> x.set(0, 16, Due.a(223, 255, 255, 255), 1, 0));
        Due.is("224.255.255.255", 1, () -> x.set(0, 16, Due.a(224, 255, 255, 255), 1, 0));
        Due.sentence("ADDRESSES are ints (their 32 bits; compared without a sign)");
        InternetHouse y = new InternetHouse();
        for (int i = 0; i < 3; i++) {
            y.node(0);
        }
        y.line(0, 4, 1, 255, 148);
        y.line(1, 8, 1, 255, 148);
        y.address(0, Due.a(127, 0, 0, 1), 8);
        y.address(1, Due.a(128, 0, 0, 1), 8);
        y.route(0, 0, 0, Due.a(128, 0, 0, 9), 1);
        y.route(0, 0, 0, Due.a(127, 0, 0, 9), 1);
        Due.is("127 is before 128", 256L * 0x7F000009L, () -> y.way(0, 0, 2));
        Due.is("128 is behind 127", 256L * 0x80000009L + 1, () -> y.way(0, 0, 1));
        Due.sentence("A NET: an ADDRESS and BITS (0 to 32): all ADDRESSES with the same highest BITS bits; all other bits of it are 0.");
        Due.argument("BITS -1", () -> y.route(0, 0, -1, A2, 1));
        Due.argument("BITS 33", () -> y.route(0, 0, 33, A2, 1));
        Due.argument("0 BITS, but a bit", () -> y.route(0, 1 << 31, 0, A2, 1));
        Due.argument("31 BITS, but the last bit", () -> y.route(0, A1, 31, A2, 1));
        Due.is("0 BITS", 3, () -> y.route(0, 0, 0, Due.a(127, 0, 0, 5), 0));
        Due.is("32 BITS", 4, () -> y.route(0, -1, 32, Due.a(127, 0, 0, 6), 0));
        Due.is("31 BITS", 5, () -> y.route(0, A2, 31, Due.a(127, 0, 0, 7), 0));
        Due.is("1 BIT", 6, () -> y.route(0, 1 << 31, 1, Due.a(127, 0, 0, 8), 0));
        Due.is("32 BITS: that alone", 6, () -> y.way(0, 0, -1) / 256 & 255);
        Due.is("its neighbour is of 1 BIT", 8, () -> y.way(0, 0, -2) / 256 & 255);
        Due.is("31 BITS: the first", 7, () -> y.way(0, 0, A2) / 256 & 255);
        Due.is("31 BITS: the second", 7, () -> y.way(0, 0, A2 + 1) / 256 & 255);
        Due.is("behind it: 0 BITS", 5, () -> y.way(0, 0, A2 + 2) / 256 & 255);
        Due.is("before it: 0 BITS", 5, () -> y.way(0, 0, A2 - 1) / 256 & 255);
    }

    private static void nodesAndLines() {
        InternetHouse x = new InternetHouse();
        Due.sentence("IllegalArgumentException: kind is not 0 to 2.");
        Due.argument("-1", () -> x.node(-1));
        Due.argument("3", () -> x.node(3));
        Due.is("0", 0, () -> x.node(0));
        Due.sentence("LINES, at most 20, join two PORTS of different NODES, none of which has a LINE.");
        Due.missing("PORT 4 of NODE 1 that is not there", () -> x.line(3, 4, 1, 8, 60));
        Due.sentence("NODES 0, 1, .., at most 12");
        for (int i = 1; i < 12; i++) {
            int want = i;
            Due.is("node", want, () -> x.node(want % 2 * 2));
        }
        Due.sentence("IllegalStateException: there are 12.");
        Due.state("12", () -> x.node(0));
        Due.argument("kind is looked at first", () -> x.node(3));
        Due.sentence("NODE n has the PORTS 4 n to 4 n + 3; the LINK ADDRESS of PORT p is p + 1; 255 is all.");
        Due.missing("PORT 48", () -> x.line(0, 48, 1, 8, 60));
        Due.missing("PORT -1", () -> x.line(-1, 4, 1, 8, 60));
        Due.missing("a PORT is looked at before numbers", () -> x.line(0, 48, 0, 0, 0));
        Due.argument("PORTS 44 and 47 are of one NODE", () -> x.line(44, 47, 1, 8, 60));
        Due.argument("a PORT and itself", () -> x.line(3, 3, 1, 8, 60));
        int[] to = {48, 47, 49, 0, 255, 254};
        int[] looked = {1, 1, 1, 1, 2, 2};
        for (int i = 0; i < to.length; i++) {
            Wire.frame(x, 47, Due.frame(to[i], 9, 3, new byte[3]));
            int k = i;
            Due.is("TO " + to[k] + " at PORT 47", looked[k], () -> x.count(11, 4));
        }
        Due.sentence("A LINE has a DELAY (1 to 20), a RATE (8 to 255 bytes in a UNIT), a SIZE (60 to 148: the longest PACKET)");
        Due.sentence("IllegalArgumentException: both of one NODE, or delay, rate, size.");
        Due.argument("DELAY 0", () -> x.line(0, 4, 0, 8, 60));
        Due.argument("DELAY 21", () -> x.line(0, 4, 21, 8, 60));
        Due.argument("RATE 7", () -> x.line(0, 4, 1, 7, 60));
        Due.argument("RATE 256", () -> x.line(0, 4, 1, 256, 60));
        Due.argument("SIZE 59", () -> x.line(0, 4, 1, 8, 59));
        Due.argument("SIZE 149", () -> x.line(0, 4, 1, 8, 149));
        Due.is("the least", 0, () -> x.line(0, 4, 1, 8, 60));
        Due.is("the greatest", 1, () -> x.line(1, 5, 20, 255, 148));
        Due.sentence("IllegalStateException: one has a LINE, or there are 20.");
        Due.state("the first has one", () -> x.line(0, 6, 1, 8, 60));
        Due.state("the second has one", () -> x.line(2, 5, 1, 8, 60));
        Due.argument("numbers are looked at before", () -> x.line(0, 6, 1, 8, 149));
        for (int i = 2; i < 20; i++) {
            int k = i;
            int p = k / 4 * 8 + k % 4;
            Due.is("line", k, () -> x.line(p, p + 4, 1, 8, 60));
        }
        Due.state("20", () -> x.line(40, 44, 1, 8, 60));
        Due.argument("20, but one NODE", () -> x.line(44, 45, 1, 8, 60));
        Due.missing("20, but no PORT", () -> x.line(44, 60, 1, 8, 60));
    }

    private static void qualities() {
        InternetHouse x = Wire.pair(0);
        Due.sentence("Of a LINE what 0 to 2: the CHANCES LOST, SPOILT, TWICE, 3 DELAY, 4 RATE, 5 SIZE (what is under way and waits stays), 6 whether it is CUT (1 or 0) becomes v: what it was.");
        Due.missing("LINE -1", () -> x.quality(-1, 0, 0));
        Due.missing("LINE 1", () -> x.quality(1, 0, 0));
        Due.missing("LINE before what", () -> x.quality(1, 9, 0));
        Due.argument("what -1", () -> x.quality(0, -1, 1));
        Due.argument("what 7", () -> x.quality(0, 7, 1));
        int[] least = {0, 0, 0, 1, 8, 60, 0};
        int[] most = {255, 255, 255, 20, 255, 148, 1};
        int[] was = {0, 0, 0, 1, 255, 148, 0};
        for (int what = 0; what < 7; what++) {
            int k = what;
            Due.argument(k + " too small", () -> x.quality(0, k, least[k] - 1));
            Due.argument(k + " too large", () -> x.quality(0, k, most[k] + 1));
            Due.is(k + " as it was", was[k], () -> x.quality(0, k, most[k]));
            Due.is(k + " the greatest", most[k], () -> x.quality(0, k, least[k]));
            Due.is(k + " the least", least[k], () -> x.quality(0, k, least[k]));
        }
        Due.sentence("three CHANCES (0 to 255, 0 at first: LOST, SPOILT, TWICE), and is whole (at first) or CUT.");
        InternetHouse y = Wire.pair(0);
        for (int what = 0; what < 3; what++) {
            int k = what;
            Due.is("CHANCE " + k, 0, () -> y.quality(0, k, 0));
        }
        Due.is("whole", 0, () -> y.quality(0, 6, 0));
    }

    /** HOSTS that know one another at TIME 3, with a SOCKET each to send DATAGRAMS from 0 to 1. */
    private static InternetHouse known(int seed) {
        InternetHouse x = Wire.pair(0, seed);
        x.socket(0, 0, 9);
        x.connect(0, A2, 5);
        x.socket(1, 0, 5);
        Wire.known(x, 0, A1, A2, 5);
        x.run(3);
        return x;
    }

    private static void send(InternetHouse x, int bytes) {
        Due.feed(x, new byte[bytes]);
        x.write(0);
    }

    private static void busy() {
        Due.sentence("BUSY becomes TIME + L / RATE (upwards); a COPY comes to the other PORT at BUSY + DELAY.");
        int[][] cases = {{0, 31, 1}, {1, 31, 2}, {0, 32, 1}, {1, 8, 4}, {2, 8, 5}, {100, 255, 1}, {100, 131, 1}, {100, 130, 2}};
        for (int[] c : cases) {
            InternetHouse x = known(0);
            x.quality(0, 4, c[1]);
            x.quality(0, 3, 3);
            send(x, c[0]);
            send(x, 0);
            x.run(1 + c[2]);
            String what = 31 + c[0] + " bytes at " + c[1];
            Due.is(what + ": the first", 4, () -> x.seen(0, 1, -2));
            Due.is(what + ": the second when BUSY is TIME", 4 + c[2], () -> x.seen(0, 0, -2));
            x.run(2);
            Due.is(what + ": not there before BUSY + DELAY", 0, () -> x.state(1, 2));
            x.run(1);
            Due.is(what + ": there at BUSY + DELAY", 1, () -> x.state(1, 2));
        }
        Due.sentence("whose LINE is whole and whose side is free (its BUSY time is TIME or before) sends one FRAME, if it has one that may go.");
        InternetHouse y = known(0);
        y.quality(0, 4, 31);
        for (int i = 0; i < 3; i++) {
            send(y, 0);
        }
        for (int i = 0; i < 3; i++) {
            y.run(1);
            int want = 4 + i;
            Due.is("one in each UNIT", want, () -> y.seen(0, 0, -2));
            Due.is("one in each UNIT", want - 2, () -> y.count(0, 0));
        }
        y.run(1);
        Due.is("no more waits", 4, () -> y.count(0, 0));
    }

    /** What comes of FRAMES by the CHANCES, reckoned by itself: ARRIVED, and SPOILT times 100. */
    private static int come(int seed, int[] chance, int frames) {
        int c = seed;
        int answer = 0;
        for (int i = 0; i < frames; i++) {
            int copies = 1;
            int spoilt = 0;
            for (int k = 0; k < 3 && copies > 0; k++) {
                if (chance[k] == 0) {
                    continue;
                }
                c = Wire.draw(c);
                if ((c >>> 16) % 256 < chance[k]) {
                    copies = k == 0 ? 0 : k == 2 ? 2 : 1;
                    if (k == 1) {
                        c = Wire.draw(c);
                        spoilt = 1;
                    }
                }
            }
            answer += spoilt == 1 ? 100 * copies : copies;
        }
        return answer;
    }

    private static void comes(String what, int seed, int... chance) {
        InternetHouse x = known(seed);
        for (int k = 0; k < 3; k++) {
            x.quality(0, k, chance[k]);
        }
        for (int i = 0; i < 6; i++) {
            send(x, 1);
        }
        x.run(12);
        int before = 1;
        Due.is(what + ": seed " + seed, come(seed, chance, 6) + before, () -> x.count(1, 1) + 100 * x.count(1, 2));
    }

    private static void chances() {
        Due.sentence("Before that, for each CHANCE that is not 0, in their order, a DRAW is made; if it modulo 256 is below the CHANCE:");
        for (int seed = 0; seed < 6; seed++) {
            int first = (Wire.draw(seed) >>> 16) % 256;
            for (int k = 0; k < 3; k++) {
                int[] chance = new int[3];
                chance[k] = Math.max(1, first);
                comes("CHANCE " + k + " is the DRAW: not below", seed, chance);
                chance[k] = Math.min(255, first + 1);
                comes("CHANCE " + k + " is 1 more", seed, chance);
            }
            comes("no CHANCE: no DRAW", seed, 0, 0, 0);
            comes("all", seed, 255, 255, 255);
        }
        Due.sentence("LOST: no COPY is made (no further DRAW); SPOILT: one more DRAW d: bit d modulo 8 of byte d / 8 modulo L of the COPY is turned round; TWICE: a second COPY (spoilt like the first) comes one UNIT later.");
        for (int seed = 100; seed < 112; seed++) {
            comes("in their order", seed, 80, 0, 0);
            comes("in their order", seed, 80, 120, 0);
            comes("in their order", seed, 0, 120, 120);
            comes("in their order", seed, 80, 0, 120);
            comes("in their order", seed, 100, 120, 140);
        }
        InternetHouse x = known(0);
        x.quality(0, 2, 255);
        send(x, 0);
        x.run(3);
        Due.is("the first COPY at BUSY + DELAY", 1, () -> x.state(1, 2));
        x.run(1);
        Due.is("the second one UNIT later", 2, () -> x.state(1, 2));
    }

    private static void manyCopies() {
        Due.sentence("At most 150 COPIES are on all LINES: more are lost.");
        InternetHouse x = new InternetHouse();
        for (int i = 0; i < 10; i++) {
            x.node(0);
            for (int g = 0; g < 4; g++) {
                x.set(i, 16, Due.a(224, 0, 0, g), 1, 0);
            }
        }
        for (int i = 0; i < 20; i++) {
            x.line(i, 20 + i, 20, 255, 148);
            x.address(i, Due.a(10, 0, i, 1), 24);
            x.address(20 + i, Due.a(10, 0, i, 2), 24);
        }
        // each of 40 PORTS has 4 REPORTS at 6, sent at 6 to 9: of the last 40 there is room for 30.
        Wire.runs(x, 9);
        Due.is("sent all the same", 16, () -> x.count(9, 0));
        Wire.runs(x, 20);
        Due.is("not the last ones yet", 12, () -> x.count(0, 1));
        x.run(1);
        int all = 0;
        for (int i = 0; i < 10; i++) {
            all += x.count(i, 1);
        }
        int arrived = all;
        Due.is("150 ARRIVED", 150, () -> arrived);
        Due.is("what PORTS 20 to 23 sent came", 16, () -> x.count(0, 1));
        Due.is("of PORTS 28 to 31 half came", 14, () -> x.count(2, 1));
        Due.is("of PORTS 36 to 39 the last is lost", 12, () -> x.count(4, 1));
        Wire.runs(x, 17);
        Due.is("nothing between", 16, () -> x.count(0, 1));
        x.run(1);
        Due.is("there was room again at 27", 20, () -> x.count(0, 1));
    }

    private static void cutAndDown() {
        Due.sentence("When a LINE is CUT its COPIES are lost; those that ARRIVE at a NODE that is down, too.");
        InternetHouse x = known(0);
        x.quality(0, 3, 20);
        send(x, 0);
        x.run(2);
        x.quality(0, 6, 1);
        x.quality(0, 6, 0);
        x.run(30);
        Due.is("lost when CUT", 0, () -> x.state(1, 2));
        send(x, 0);
        x.run(21);
        x.set(1, 0, 0, 0, 0);
        x.set(1, 0, 1, 0, 0);
        int arrived = x.count(1, 1);
        x.run(1);
        Due.is("down and UP again before it ARRIVES", arrived + 1, () -> x.count(1, 1));
        send(x, 0);
        x.run(21);
        x.set(1, 0, 0, 0, 0);
        x.run(1);
        x.set(1, 0, 1, 0, 0);
        x.run(5);
        Due.is("down when it ARRIVES", arrived + 1, () -> x.count(1, 1));
        Due.is("nor SPOILT", 0, () -> x.count(1, 2));
        Due.sentence("(A LINE that was CUT and is mended has free sides.)");
        InternetHouse y = known(0);
        y.quality(0, 4, 8);
        send(y, 100);
        send(y, 0);
        y.run(1);
        y.quality(0, 6, 0);
        y.run(1);
        Due.is("whole all the time: BUSY for 17 UNITS", 2, () -> y.count(0, 0));
        y.quality(0, 6, 1);
        y.run(1);
        Due.is("nothing goes while it is CUT", 2, () -> y.count(0, 0));
        y.quality(0, 6, 0);
        y.run(1);
        Due.is("goes at once", 3, () -> y.count(0, 0));
    }

    private static void frames() {
        Due.sentence("A FRAME that ARRIVES with less than 5 bytes or a wrong CHECK is counted as SPOILT and is nothing; others count as ARRIVED.");
        InternetHouse x = Wire.pair(0);
        byte[] two = {(byte) 255, 9};
        byte[] four = Due.join(two, Wire.half(Due.check(two)));
        Wire.frame(x, 0, new byte[0]);
        Due.is("0 bytes", 1, () -> x.count(0, 2));
        Wire.frame(x, 0, four);
        Due.is("4 bytes with a right CHECK", 2, () -> x.count(0, 2));
        Due.is("not ARRIVED", 0, () -> x.count(0, 1));
        byte[] five = Due.frame(255, 9, 7, new byte[0]);
        Wire.frame(x, 0, five);
        Due.is("5 bytes", 1, () -> x.count(0, 1));
        Due.is("not SPOILT", 2, () -> x.count(0, 2));
        byte[] ask = Wire.find(1, 5, A2, A1);
        for (int i = 0; i < 8 * ask.length; i++) {
            byte[] bad = ask.clone();
            bad[i / 8] ^= 1 << i % 8;
            Wire.frame(x, 0, bad);
        }
        Due.is("each bit turned round", 2 + 8 * 15, () -> x.count(0, 2));
        Due.missing("is nothing", () -> x.look(0, 0, 0, 0));
        Wire.frame(x, 0, ask);
        Due.is("as it is", 2, () -> x.count(0, 1));
        Due.is("as it is", A2, () -> x.look(0, 0, 0, 1));
        Due.sentence("CHECK (2 bytes): c is 65535 at first; for each byte before it c becomes c xor 256 times the byte, then eight times: twice c, in 16 bits, xor 4129 if c was 32768 or more.");
        int arrived = x.count(0, 1);
        Wire.frame(x, 0, Due.join("123456789".getBytes(), Due.bytes(0x29, 0xB1)));
        Due.is("nine digits: 29 B1", arrived + 1, () -> x.count(0, 1));
        Wire.frame(x, 0, Due.join("123456789".getBytes(), Due.bytes(0xB1, 0x29)));
        Due.is("the highest first", arrived + 1, () -> x.count(0, 1));
        Due.sentence("A HOST or ROUTER looks only at those whose TO is that PORT's LINK ADDRESS or 255.");
        for (int kind = 0; kind < 3; kind += 2) {
            InternetHouse y = Wire.pair(kind);
            byte[] body = new byte[1];
            int[] to = {0, 4, 6, 254};
            for (int t : to) {
                Wire.frame(y, 4, Due.frame(t, 9, 3, body));
            }
            Due.is("others", 0, () -> y.count(1, 4));
            Due.is("ARRIVED all the same", 4, () -> y.count(1, 1));
            Wire.frame(y, 4, Due.frame(5, 9, 3, body));
            Wire.frame(y, 4, Due.frame(255, 9, 3, body));
            Due.is("its own, all", 2, () -> y.count(1, 4));
        }
    }

    /** A BRIDGE with two HOSTS that FORWARDS, at TIME 6, the LINE at its PORT 1 CUT. */
    private static InternetHouse gate() {
        InternetHouse x = new InternetHouse();
        x.node(1);
        x.node(0);
        x.node(0);
        x.line(0, 4, 1, 255, 148);
        x.line(1, 8, 1, 255, 148);
        x.run(6);
        x.quality(1, 6, 1);
        return x;
    }

    private static void queue(InternetHouse x, int cls, int length) {
        Wire.frame(x, 0, Due.frame(200, 100, 3, Due.join(Due.bytes(64 + cls), new byte[length - 6])));
    }

    private static void rows() {
        Due.sentence("Each PORT has four ROWS of FRAMES that wait, for CLASSES 0 to 3, at most 8 in each: more are dropped (counted as DROPPED).");
        InternetHouse x = gate();
        for (int c = 0; c < 3; c++) {
            int before = c;
            for (int i = 0; i < 8; i++) {
                queue(x, c, 20);
            }
            Due.is("8 of CLASS " + c, before, () -> x.count(0, 3));
            queue(x, c, 20);
            Due.is("a ninth", before + 1, () -> x.count(0, 3));
        }
        Due.sentence("A PACKET with a BODY is of the CLASS that its first byte modulo 4 says, all else of CLASS 3.");
        Wire.frame(x, 0, Due.frame(200, 100, 3, new byte[0]));
        Wire.frame(x, 0, Due.frame(200, 100, 2, Due.bytes(64)));
        Wire.frame(x, 0, Due.frame(200, 100, 0, Due.bytes(64)));
        Wire.frame(x, 0, Due.frame(200, 100, 255, Due.bytes(65)));
        for (int i = 0; i < 4; i++) {
            Wire.frame(x, 0, Due.frame(200, 100, 3, Due.bytes(255)));
        }
        Due.is("8 of CLASS 3", 3, () -> x.count(0, 3));
        Wire.frame(x, 0, Due.frame(200, 100, 3, Due.bytes(3)));
        Due.is("a ninth", 4, () -> x.count(0, 3));
        Due.sentence("Which goes next: the first of CLASS 3, if one waits.");
        x.quality(1, 6, 0);
        x.run(1);
        Due.is("a PACKET without a BODY", 5, () -> x.seen(1, 0, -1));
        x.run(7);
        Due.is("the eighth", 255, () -> x.seen(1, 0, 3));
        Due.sentence("On a PORT without a LINE nothing is sent, and nothing comes into them (no NAME is used for it).");
        InternetHouse y = new InternetHouse();
        y.node(0);
        y.node(0);
        y.set(0, 14, 0, 1, 0);
        y.set(0, 14, 1, 1, 0);
        y.line(1, 4, 1, 255, 148);
        y.run(3);
        Due.is("one WANT with a LINE, one without", 1, () -> y.count(0, 0));
        Due.is("NAME", 1, () -> y.look(0, 15, 0, 6));
        Due.is("not DROPPED", 0, () -> y.count(0, 3));
        y.line(0, 5, 1, 255, 148);
        y.run(3);
        Due.missing("what did not come into the ROWS does not go later", () -> y.seen(0, 0, -1));
    }

    private static int wentFirst(int[]... classAndLength) {
        InternetHouse x = gate();
        for (int[] c : classAndLength) {
            queue(x, c[0], c[1]);
        }
        x.quality(1, 6, 0);
        x.run(1);
        return x.seen(1, 0, 3) & 3;
    }

    private static void turns() {
        Due.sentence("A PORT has a QUANTUM for each of the CLASSES 0 to 2 (64 at first), a DEFICIT for these (0) and a TURN (CLASS 0).");
        Due.is("0 and 1 of 64 bytes: the TURN goes on from 0", 1, () -> wentFirst(new int[] {0, 64}, new int[] {1, 64}));
        Due.is("0, 1 and 2 of 64 bytes", 1, () -> wentFirst(new int[] {0, 64}, new int[] {2, 64}, new int[] {1, 64}));
        Due.sentence("is its first FRAME longer than its DEFICIT, the TURN goes on; else this goes, and the DEFICIT is less by its length (the TURN stays).");
        Due.is("1 of 65 bytes", 0, () -> wentFirst(new int[] {0, 64}, new int[] {1, 65}));
        Due.is("1 of 65, 2 of 64 bytes", 2, () -> wentFirst(new int[] {0, 64}, new int[] {1, 65}, new int[] {2, 64}));
        Due.is("0 of 65, 1 of 65: both in the second round", 1, () -> wentFirst(new int[] {0, 65}, new int[] {1, 65}));
        Due.is("0 of 65, 1 of 129: that in the third round", 0, () -> wentFirst(new int[] {0, 65}, new int[] {1, 129}));
        InternetHouse x = gate();
        for (int i = 0; i < 3; i++) {
            queue(x, 0, 64);
            queue(x, 1, 32);
        }
        x.quality(1, 6, 0);
        StringBuilder order = new StringBuilder();
        for (int i = 0; i < 14; i++) {
            x.run(1);
            if (x.seen(1, 0, 2) == 3) {
                order.append(x.seen(1, 0, 3) & 3);
            }
        }
        Due.said("two of 32 bytes for a QUANTUM", order.toString(), "110100");
        Due.sentence("Else, if any waits: as long as none was found: has the CLASS of the TURN no FRAME, its DEFICIT becomes 0, and the TURN goes on (0, 1, 2, 0, ..)");
        InternetHouse y = gate();
        queue(y, 1, 40);
        y.quality(1, 6, 0);
        y.run(1);
        Due.is("24 are left of 64", 1, () -> y.seen(1, 0, 3) & 3);
        queue(y, 0, 64);
        y.run(2);
        Due.is("CLASS 1 has no FRAME: its 24 are gone", 0, () -> y.seen(1, 0, 3) & 3);
        y.quality(1, 6, 1);
        queue(y, 1, 80);
        queue(y, 0, 64);
        y.quality(1, 6, 0);
        y.run(2);
        Due.is("64 are not enough for 80", 0, () -> y.seen(1, 0, 3) & 3);
        Due.sentence("3: QUANTUM c (1 to 255) of CLASS b (0 to 2) at PORT a; DEFICITS and TURN are 0 then.");
        for (int[] c : new int[][] {{-1, 0, 1}, {4, 0, 1}, {0, -1, 1}, {0, 3, 1}, {0, 0, 0}, {0, 0, 256}}) {
            Due.argument(c[0] + " " + c[1] + " " + c[2], () -> x.set(0, 3, c[0], c[1], c[2]));
        }
        Due.is("the least", 1, () -> x.set(0, 3, 0, 0, 1));
        Due.is("the greatest", 1, () -> x.set(0, 3, 3, 2, 255));
        InternetHouse z = gate();
        z.set(0, 3, 1, 0, 255);
        z.set(0, 3, 1, 1, 1);
        queue(z, 0, 128);
        queue(z, 1, 8);
        queue(z, 0, 127);
        z.quality(1, 6, 0);
        z.run(1);
        Due.is("QUANTUM 1 of CLASS 1", 0, () -> z.seen(1, 0, 3) & 3);
        z.set(0, 3, 1, 1, 8);
        z.run(2);
        Due.is("DEFICITS and TURN are 0 then", 1, () -> z.seen(1, 0, 3) & 3);
    }

    private static InternetHouse asks(int fill, int size) {
        InternetHouse x = Wire.pair(0);
        x.set(0, 4, 0, fill, size);
        x.run(10);
        x.echo(0, Due.a(10, 0, 0, 8), 0, 32);
        x.echo(0, Due.a(10, 0, 0, 9), 0, 32);
        return x;
    }

    private static void second(int fill, int size, int at) {
        InternetHouse x = asks(fill, size);
        x.run(7);
        Due.is("FILL " + fill + ", SIZE " + size + ": the first of 15 bytes", 11, () -> x.seen(0, 1, -2));
        Due.is("FILL " + fill + ", SIZE " + size + ": the second", at, () -> x.seen(0, 0, -2));
    }

    private static void buckets() {
        Due.sentence("A BUCKET (FILL 0: none, at first; SIZE): TOKENS, SIZE at first, grow in each UNIT, in part 4, ahead of it, by FILL, up to SIZE;");
        second(0, 1, 12);
        second(5, 20, 13);
        second(4, 20, 14);
        second(10, 20, 12);
        second(1, 29, 12);
        second(1, 28, 13);
        second(255, 15, 12);
        Due.sentence("the FRAME that is next goes only if TOKENS are as many as its bytes, which are taken away; else none goes, and what was found is found again (neither DEFICIT nor TURN change by that).");
        InternetHouse x = asks(255, 14);
        x.run(7);
        Due.is("never 15", 0, () -> x.count(0, 0));
        x.set(0, 4, 0, 1, 15);
        x.run(1);
        Due.is("TOKENS are SIZE", 1, () -> x.count(0, 0));
        x.run(14);
        Due.is("14 more", 1, () -> x.count(0, 0));
        x.run(1);
        Due.is("15 more", 2, () -> x.count(0, 0));
        InternetHouse y = gate();
        y.run(1);
        queue(y, 0, 64);
        queue(y, 1, 64);
        queue(y, 1, 64);
        y.set(0, 4, 1, 16, 64);
        y.quality(1, 6, 0);
        // a NOTICE of 13 bytes goes first at 8, then at each even TIME: the TOKENS are taken by these, too.
        int[] times = new int[3];
        StringBuilder order = new StringBuilder();
        for (int i = 0; i < 60 && order.length() < 3; i++) {
            y.run(1);
            if (y.seen(1, 0, 2) == 3) {
                order.append(y.seen(1, 0, 3) & 3);
                times[order.length() - 1] = y.seen(1, 0, -2);
                while (y.seen(1, 0, 2) == 3) {
                    y.run(1);
                }
            }
        }
        Due.said("as without a BUCKET", order.toString(), "101");
        Due.sentence("4: BUCKET at PORT a: FILL b (0 to 255), SIZE c (1 to 1000); TOKENS are SIZE.");
        for (int[] c : new int[][] {{-1, 0, 1}, {4, 0, 1}, {0, -1, 1}, {0, 256, 1}, {0, 0, 0}, {0, 0, 1001}}) {
            Due.argument(c[0] + " " + c[1] + " " + c[2], () -> x.set(0, 4, c[0], c[1], c[2]));
        }
        Due.is("the least", 1, () -> x.set(0, 4, 0, 0, 1));
        Due.is("the greatest", 1, () -> x.set(0, 4, 3, 255, 1000));
    }

    private static void timeAndSeen() {
        Due.sentence("n UNITS, 1 to 40: TIME.");
        InternetHouse x = Wire.pair(0);
        Due.argument("0", () -> x.run(0));
        Due.argument("-1", () -> x.run(-1));
        Due.argument("41", () -> x.run(41));
        Due.argument("greatest int", () -> x.run(Integer.MAX_VALUE));
        Due.sentence("TIME: UNITS, 0 at first.");
        Due.is("1", 1, () -> x.run(1));
        Due.is("40 more", 41, () -> x.run(40));
        Due.sentence("All anew, with a CHANCE (TAPE and OUT, too): how many UNITS there were.");
        x.socket(0, 0, 5);
        x.feed(1, 2, 3, 4, 5);
        x.capture(0, 1);
        x.set(1, 16, Wire.GROUP, 1, 0);
        x.run(7);
        x.capture(0, 2);
        Due.is("OUT is not empty", 1, () -> x.octet(-1) > 0 ? 1 : 0);
        Due.is("48 UNITS", 48, () -> x.begin(0));
        Due.missing("no NODE", () -> x.count(0, 0));
        Due.missing("no LINE", () -> x.capture(0, 2));
        Due.missing("no SOCKET", () -> x.state(0, 0));
        Due.argument("TAPE", () -> x.end(1));
        Due.is("OUT", 0, () -> x.octet(-1));
        Due.is("no UNIT", 0, () -> x.begin(0));
        x.node(0);
        x.node(0);
        Due.is("LINE 0", 0, () -> x.line(0, 4, 1, 255, 148));
        Due.is("none are taken down", 0, () -> x.capture(0, 2));
        Due.is("SOCKET 0", 0, () -> x.socket(0, 0, 5));
        Due.is("its counts", 0, () -> x.count(1, 0));
        Due.missing("not in a GROUP any more", () -> {
            x.address(4, A2, 24);
            x.run(6);
            return x.seen(4, 0, -1);
        });
        Due.sentence("Of the i-th FRAME (0 the latest, to 3) that PORT p sent: byte k; for k -1 how many, -2 the TIME. NoSuchElementException: there is none such.");
        InternetHouse y = known(0);
        Due.missing("PORT", () -> y.seen(8, 0, 0));
        Due.missing("PORT -1", () -> y.seen(-1, 0, 0));
        Due.missing("only one was sent", () -> y.seen(0, 1, -1));
        for (int i = 0; i < 4; i++) {
            send(y, i);
        }
        y.run(5);
        Due.is("the latest", 31 + 3, () -> y.seen(0, 0, -1));
        Due.is("the fourth", 31, () -> y.seen(0, 3, -1));
        Due.missing("a fifth is not kept", () -> y.seen(0, 4, -1));
        Due.missing("-1", () -> y.seen(0, -1, -1));
        Due.is("its TIME", 4, () -> y.seen(0, 3, -2));
        Due.missing("-3", () -> y.seen(0, 3, -3));
        Due.is("the last byte", 1, () -> y.seen(0, 3, 30) >= 0 ? 1 : 0);
        Due.missing("byte 31 of 31", () -> y.seen(0, 3, 31));
        Due.missing("a PORT that sent none", () -> y.seen(1, 0, -1));
    }

    private static void injected() {
        Due.sentence("The first 160 bytes of the TAPE, empty then, ARRIVE now as a FRAME at PORT p: how many bytes (of these).");
        InternetHouse x = Wire.pair(0);
        Due.is("none", 0, () -> x.inject(0));
        Due.is("SPOILT", 1, () -> x.count(0, 2));
        byte[] whole = Due.frame(255, 9, 7, new byte[155]);
        Due.feed(x, whole);
        Due.is("160", 160, () -> x.inject(0));
        Due.is("ARRIVED", 1, () -> x.count(0, 1));
        Due.feed(x, Due.join(whole, new byte[1]));
        Due.is("161: 160 of them", 160, () -> x.inject(0));
        Due.is("ARRIVED", 2, () -> x.count(0, 1));
        Due.argument("the TAPE is empty", () -> x.end(1));
        Due.feed(x, Due.frame(255, 9, 7, new byte[156]));
        Due.is("161 with the CHECK at the end", 160, () -> x.inject(0));
        Due.is("SPOILT", 2, () -> x.count(0, 2));
        x.feed(0, 0, 0, 0, 0);
        Due.missing("PORT 8", () -> x.inject(8));
        Due.missing("PORT -1", () -> x.inject(-1));
        x.set(1, 0, 0, 0, 0);
        Due.sentence("IllegalStateException: its NODE is down.");
        Due.state("down", () -> x.inject(4));
        Due.is("the TAPE stays", 20, () -> Wire.tape(x));
        Due.is("a PORT without a LINE", 20, () -> x.inject(3));
        Due.sentence("Of a NODE what 0 to 3: of FRAMES at its PORTS: sent, ARRIVED, SPOILT, DROPPED;");
        Due.missing("NODE 2", () -> x.count(2, 0));
        Due.missing("NODE -1", () -> x.count(-1, 0));
        Due.missing("NODE before what", () -> x.count(2, 10));
        Due.argument("what -1", () -> x.count(0, -1));
        Due.argument("what 10", () -> x.count(0, 10));
        Due.is("what 9", 0, () -> x.count(0, 9));
    }

    private static void captures() {
        InternetHouse x = known(0);
        Due.sentence("what 1: FRAMES that are put on a LINE from now on are taken down (at most 12, the first; those from before are gone), 0: no more;");
        Due.missing("LINE 1", () -> x.capture(1, 2));
        Due.missing("LINE before what", () -> x.capture(1, 3));
        Due.argument("what -1", () -> x.capture(0, -1));
        Due.argument("what 3", () -> x.capture(0, 3));
        Due.is("none before", 0, () -> x.capture(0, 2));
        x.capture(0, 1);
        for (int i = 0; i < 13; i++) {
            send(x, i);
            x.run(1);
            int want = Math.min(12, i + 1);
            Due.is("taken down", want, () -> x.capture(0, 2));
        }
        Due.is("the first", 31, () -> x.octet(5));
        Due.is("no more", 12, () -> x.capture(0, 0));
        Due.is("those from before are gone", 0, () -> x.capture(0, 1));
        Due.is("no more", 0, () -> x.capture(0, 0));
        send(x, 0);
        x.run(2);
        Due.is("not taken down", 0, () -> x.capture(0, 2));
        Due.is("OUT is empty", 0, () -> x.octet(-1));
        Due.sentence("OUT becomes them: each TIME (4 bytes), PORT, length, its bytes as sent (as many as are whole within 512): how many are taken down.");
        for (int more = 0; more < 2; more++) {
            x.capture(0, 1);
            for (int i = 0; i < 5; i++) {
                send(x, 91 + (i == 3 ? more : 0));
                x.run(2);
            }
            int want = more == 0 ? 512 : 384;
            Due.is("5 of them", 5, () -> x.capture(0, 2));
            Due.is("four of 128 bytes, or three", want, () -> x.octet(-1));
        }
        Due.is("length", 122, () -> x.octet(5));
        Due.is("PORT", 0, () -> x.octet(4));
        Due.sentence("BYTES are told as 0 to 255, numbers of several bytes with the highest first.");
        Due.is("a byte of 173", 173, () -> {
            Due.feed(x, Due.join(new byte[90], Due.bytes(173)));
            x.capture(0, 1);
            x.write(0);
            x.run(2);
            x.capture(0, 2);
            return x.octet(6 + 122 - 3);
        });
        Due.is("LENGTH of a DATAGRAM: 99", 99, () -> x.octet(6 + 3 + 18 + 4) * 256 + x.octet(6 + 3 + 18 + 5));
        x.capture(0, 1);
        for (int i = 0; i < 3; i++) {
            send(x, 91);
        }
        x.run(4);
        x.capture(0, 2);
        Due.sentence("Byte k of OUT; for k -1 how many. NoSuchElementException: there is none.");
        Due.is("the last", 1, () -> x.octet(383) >= 0 ? 1 : 0);
        Due.missing("384", () -> x.octet(384));
        Due.missing("-2", () -> x.octet(-2));
        Due.sentence("What is not as it must be in the house's own rows: always 0.");
        Due.is("audit", 0, x::audit);
    }

    public static void main(String[] args) {
        tape();
        draws();
        addresses();
        nodesAndLines();
        qualities();
        busy();
        chances();
        manyCopies();
        cutAndDown();
        frames();
        rows();
        turns();
        buckets();
        timeAndSeen();
        injected();
        captures();
        Due.end("BoundsLinesTest");
    }
}
