import java.util.NoSuchElementException;
import java.util.Random;

/**
 * Random runs of up to 512 calls: no call may throw anything but what its promise names, audit is
 * always 0, and the same calls always give the same answers: a second object, that was used for another
 * run before and is begun anew, runs beside the first. A third one is spared all calls that throw, and must
 * answer all others the same: a call that throws changes nothing.
 */
public final class RandomRuns {
    private static final String[] TEXTS = {
        "pass known\ndrop proto 17 port 5 9\nrefuse from 10.0.0.0/8 to 10.0.1.0/24 at 1\npass",
        "drop proto 1\n\npass from 10.0.0.0/24",
        "in peer 0 net 10.0.0.0/8 8 32 accept degree 200 med 5\nout go tag 7 prepend 2\nout has 7 refuse",
        "zone . 100\ncom 100 ns ns.com\nns.com 100 a 10.0.0.2\n* 50 text 77",
        "zone com 50\nx.com 20 alias y.com\ny.com 30 a 10.0.1.1\n*.z.com 9 a 1.2.3.4\ncom 3 ns ns.com\nns.com 4 a 10.0.0.1",
        "zone x 600", "x.com", "y.com", "a.z.com", "com", ".", "nosuch.com", "-", "a..b",
    };
    private final Random r;
    private final InternetHouse x = new InternetHouse();
    private final InternetHouse y;
    private final InternetHouse z = new InternetHouse();
    private int nodes;
    private static long digest;

    private RandomRuns(long seed, InternetHouse used) {
        r = new Random(seed);
        y = used;
    }

    private void go(int steps) {
        setUp();
        for (int k = 0; k < steps; k++) {
            step();
        }
        if (x.audit() != 0) {
            throw new RuntimeException("audit");
        }
        if (!Snapshot.of(x).equals(Snapshot.of(z))) {
            throw new RuntimeException("a call that threw changed something");
        }
    }

    private int pick(int... of) {
        return of[r.nextInt(of.length)];
    }

    private int someAddress() {
        switch (r.nextInt(12)) {
            case 0: return pick(0, -1, 0xE0000001, 0xE0000002, 1);
            case 1: return r.nextInt();
            default: return 0x0A000000 | r.nextInt(4) << 8 | r.nextInt(6);
        }
    }

    private int port() {
        return r.nextInt(40) == 0 ? r.nextInt(60) - 5 : r.nextInt(Math.max(1, 4 * nodes));
    }

    private int node() {
        return r.nextInt(60) == 0 ? r.nextInt(20) - 3 : r.nextInt(Math.max(1, nodes));
    }

    private static int check(byte[] b, int n) {
        int c = 65535;
        for (int i = 0; i < n; i++) {
            c ^= (b[i] & 255) << 8;
            for (int k = 0; k < 8; k++) {
                c = (c & 32768) != 0 ? (c << 1 ^ 4129) & 65535 : c << 1 & 65535;
            }
        }
        return c;
    }

    private static int sum(byte[] b, int from, int to) {
        int s = 0;
        for (int i = from; i < to; i += 2) {
            s += (b[i] & 255) << 8 | (i + 1 < to ? b[i + 1] & 255 : 0);
        }
        while (s > 65535) {
            s = (s >>> 16) + (s & 65535);
        }
        return 65535 - s;
    }

    /** A FRAME with a PACKET that is mostly right, with DATA that is mostly not. */
    private byte[] frame(int port) {
        int data = r.nextInt(10) == 0 ? r.nextInt(137) : r.nextInt(60);
        int protocol = pick(1, 6, 17, 9, 89, 79, 67, 53, 4, 50, 2, 99);
        byte[] b = new byte[3 + 18 + data + 2];
        r.nextBytes(b);
        b[0] = (byte) (r.nextInt(3) == 0 ? port + 1 : 255);
        b[1] = (byte) r.nextInt(50);
        b[2] = (byte) pick(3, 3, 3, 3, 3, 3, 2, 1, 7);
        b[3] = (byte) (64 + r.nextInt(4));
        b[4] = (byte) protocol;
        b[5] = (byte) (18 + data);
        b[6] = (byte) pick(0, 1, 2, 32);
        b[9] = (byte) pick(0, 0, 0, 0, 128, 64, 1, 130, 3);
        b[7] = 0;
        b[8] = (byte) r.nextInt(2);
        put(b, 13, someAddress());
        put(b, 17, pick(-1, -1, someAddress(), 0xE0000001));
        for (int i = 21; i < Math.min(b.length - 2, 21 + 4); i++) {
            if (r.nextInt(3) > 0) {
                b[i] = (byte) r.nextInt(7);
            }
        }
        int at = 21 + (protocol == 1 ? 2 : protocol == 17 ? 6 : 16);
        if ((protocol == 1 || protocol == 17 || protocol == 6) && at + 2 <= b.length - 2) {
            if (protocol == 17) {
                put16(b, 25, data);
            }
            put16(b, at, 0);
            put16(b, at, sum(b, 21, b.length - 2));
        }
        put16(b, 11, 0);
        put16(b, 11, sum(b, 3, 21));
        put16(b, b.length - 2, r.nextInt(20) == 0 ? 0 : check(b, b.length - 2));
        return b;
    }

    private static void put(byte[] b, int at, int v) {
        for (int i = 0; i < 4; i++) {
            b[at + i] = (byte) (v >>> 24 - 8 * i);
        }
    }

    private static void put16(byte[] b, int at, int v) {
        b[at] = (byte) (v >>> 8);
        b[at + 1] = (byte) v;
    }

    private int feedAll(InternetHouse h, byte[] b) {
        int n = 0;
        try {
            h.end(0);
            for (int i = 0; i < b.length; i += 20) {
                int[] v = new int[5];
                for (int k = 0; k < 20 && i + k < b.length; k++) {
                    v[k / 4] |= (b[i + k] & 255) << 24 - 8 * (k % 4);
                }
                n = h.feed(v[0], v[1], v[2], v[3], v[4]);
            }
            n = h.end(b.length);
        } catch (IllegalStateException e) {
            return -1;
        }
        return n;
    }

    private void feed(byte[] b) {
        int n = feedAll(x, b);
        if (n != feedAll(y, b) || n != feedAll(z, b)) {
            throw new RuntimeException("feed differs");
        }
    }

    private void feedText() {
        feed(TEXTS[r.nextInt(TEXTS.length)].getBytes());
    }

    private static final int[] ARGS = {1, 5, 3, 3, 5, 5, 2, 1, 1, 3, 2, 2, 3, 4, 3, 3, 1, 1, 2, 2, 2, 2, 3, 4, 3, 2, 1, 0};

    private static final String[] MAY = {
        "AS", "NAS", "NA", "NAS", "NAS", "NAS", "NAS", "A", "NS", "N", "NA", "NAS", "NS", "NAS", "NAS", "NAS", "NS",
        "NAS", "NAS", "NA", "NA", "NAS", "N", "NAS", "NA", "NA", "N", "",
    };

    private static long call(InternetHouse h, int m, int[] a) {
        switch (m) {
            case 0: return h.node(a[0]);
            case 1: return h.line(a[0], a[1], a[2], a[3], a[4]);
            case 2: return h.quality(a[0], a[1], a[2]);
            case 3: return h.address(a[0], a[1], a[2]);
            case 4: return h.route(a[0], a[1], a[2], a[3], a[4]);
            case 5: return h.set(a[0], a[1], a[2], a[3], a[4]);
            case 6: return h.load(a[0], a[1]);
            case 7: return h.run(a[0]);
            case 8: return h.inject(a[0]);
            case 9: return h.seen(a[0], a[1], a[2]);
            case 10: return h.count(a[0], a[1]);
            case 11: return h.bridge(a[0], a[1]);
            case 12: return h.way(a[0], a[1], a[2]);
            case 13: return h.echo(a[0], a[1], a[2], a[3]);
            case 14: return h.socket(a[0], a[1], a[2]);
            case 15: return h.connect(a[0], a[1], a[2]);
            case 16: return h.accept(a[0]);
            case 17: return h.write(a[0]);
            case 18: return h.read(a[0], a[1]);
            case 19: return h.close(a[0], a[1]);
            case 20: return h.state(a[0], a[1]);
            case 21: return h.ask(a[0], a[1]);
            case 22: return h.answer(a[0], a[1], a[2]);
            case 23: return h.look(a[0], a[1], a[2], a[3]);
            case 24: return h.map(a[0], a[1], a[2]);
            case 25: return h.capture(a[0], a[1]);
            case 26: return h.octet(a[0]);
            default: return h.audit();
        }
    }

    private static long answer(InternetHouse h, int m, int[] a) {
        try {
            return call(h, m, a);
        } catch (NoSuchElementException e) {
            need(m, "N");
            return Long.MIN_VALUE;
        } catch (IllegalArgumentException e) {
            need(m, "A");
            return Long.MIN_VALUE + 1;
        } catch (IllegalStateException e) {
            need(m, "S");
            return Long.MIN_VALUE + 2;
        }
    }

    private static void need(int m, String what) {
        if (!MAY[m].contains(what)) {
            throw new RuntimeException("call " + m + " throws " + what);
        }
    }

    private long both(int m, int... a) {
        long g = answer(x, m, a);
        if (g != answer(y, m, a)) {
            throw new RuntimeException("call " + m + " differs");
        }
        boolean threw = g < Long.MIN_VALUE + 3;
        if (!threw && g != answer(z, m, a)) {
            throw new RuntimeException("call " + m + " differs without those that threw");
        }
        digest = 31 * digest + g;
        return g;
    }

    private void setUp() {
        int seed = r.nextInt();
        x.begin(seed);
        y.begin(seed);
        z.begin(seed);
        nodes = 2 + r.nextInt(10);
        int bias = r.nextInt(4);
        for (int i = 0; i < nodes; i++) {
            both(0, bias == 3 ? r.nextInt(3) : bias == 2 ? pick(2, 2, 2, 0) : bias == 1 ? pick(1, 1, 1, 0) : pick(0, 0, 2, 1));
        }
        for (int i = 0; i < 3 * nodes; i++) {
            both(1, port(), port(), 1 + r.nextInt(4), 8 + r.nextInt(248), 60 + r.nextInt(89));
        }
        for (int i = 0; i < 4 * nodes; i++) {
            both(3, i, 0x0A000000 | r.nextInt(5) << 8 | 1 + r.nextInt(6), pick(24, 24, 24, 24, 16, 30));
        }
        for (int i = 0; i < nodes; i++) {
            int m = r.nextInt(8);
            both(5, i, 5, m & 1, 0, 0);
            both(5, i, 6, m >> 1 & 1, 0, 0);
            if ((m & 4) != 0) {
                both(5, i, 8, 1 + r.nextInt(4), 0, 0);
                for (int k = 0; k < 3; k++) {
                    both(5, i, 9, someAddress(), 1 + r.nextInt(4), 0);
                }
                both(5, i, 10, r.nextInt(4) << 28, 8, 1);
            }
            both(5, i, 15, someAddress(), 0, 0);
            both(4, i, 0, 0, someAddress(), 1);
        }
    }

    private void step() {
        int m = pick(2, 3, 4, 5, 5, 6, 7, 7, 7, 7, 7, 8, 8, 8, 9, 10, 11, 12, 13, 13, 14, 15, 15, 16, 17, 17, 18, 18, 19, 20,
            20, 21, 21, 22, 23, 23, 23, 24, 24, 25, 26, 27);
        int[] a = new int[ARGS[m]];
        for (int i = 0; i < a.length; i++) {
            a[i] = r.nextInt(30) == 0 ? r.nextInt() : r.nextInt(20) == 0 ? r.nextInt(300) - 3 : r.nextInt(4);
        }
        boolean ofPort = m == 3 || m == 8 || m == 9 || m == 11;
        boolean ofNode = m == 4 || m == 5 || m == 6 || m == 10 || m == 12 || m == 13 || m == 14 || m >= 21 && m <= 23;
        if (ofPort) {
            a[0] = port();
        } else if (ofNode) {
            a[0] = node();
        }
        switch (m) {
            case 2: a[0] = r.nextInt(12); a[1] = r.nextInt(8); a[2] = pick(0, 1, 1, 60, 100, 148, 20, 255); break;
            case 3: a[1] = someAddress(); a[2] = pick(24, 24, 0, 16, 31); break;
            case 4: a[1] = someAddress() & 0xFFFFFF00; a[2] = pick(24, 0, 32); a[3] = someAddress(); a[4] = r.nextInt(6) - 1; break;
            case 5: settings(a); break;
            case 6: feedText(); break;
            case 7: a[0] = 1 + r.nextInt(40); break;
            case 8: feed(frame(a[0])); break;
            case 9: a[2] = r.nextInt(20) - 2; break;
            case 10: a[1] = r.nextInt(11); break;
            case 11: a[1] = r.nextInt(17); break;
            case 12: a[1] = someAddress(); a[2] = someAddress(); break;
            case 13: a[1] = someAddress(); a[2] = r.nextInt(102); a[3] = pick(1, 2, 32, 255); break;
            case 14: a[2] = pick(0, 0, 5, 7, 9); break;
            case 15: a[0] = r.nextInt(12); a[1] = someAddress(); a[2] = pick(5, 7, 9, 50000, 50001); break;
            case 16: a[0] = r.nextInt(12); break;
            case 17: a[0] = r.nextInt(16); byte[] b = new byte[pick(3, 60, 100, 101, 400)]; r.nextBytes(b); feed(b); break;
            case 18: a[0] = r.nextInt(16); a[1] = 1 + r.nextInt(200); break;
            case 19: a[0] = r.nextInt(16); break;
            case 20: a[0] = r.nextInt(16); a[1] = r.nextInt(17); break;
            case 21: a[1] = 1 + r.nextInt(4); feedText(); break;
            case 23: a[1] = r.nextInt(17); a[3] = r.nextInt(9); break;
            case 24: a[1] = node(); a[2] = pick(node(), someAddress()); break;
            case 25: a[0] = r.nextInt(10); break;
            default: break;
        }
        both(m, a);
    }

    private void settings(int[] a) {
        a[1] = r.nextInt(17);
        switch (a[1]) {
            case 0: a[2] = pick(1, 1, 0); break;
            case 8: a[2] = r.nextInt(5); break;
            case 9: a[2] = someAddress(); a[3] = r.nextInt(5); break;
            case 10: a[2] = someAddress() & 0xFFFFFF00; a[3] = 24; a[4] = r.nextInt(2); break;
            case 11: a[2] = r.nextInt(6) - 1; break;
            case 12: a[3] = someAddress(); a[4] = pick(0, 0, 77); break;
            case 13: a[2] = r.nextInt(4); a[3] = someAddress(); a[4] = pick(4020, 10, 1500, 16100); break;
            case 14: a[2] = r.nextInt(4); a[3] = pick(1, 1, 0); break;
            case 15: a[2] = someAddress(); break;
            case 16: a[2] = 0xE0000000 | r.nextInt(6); a[3] = r.nextInt(2); break;
            default: break;
        }
    }

    public static void main(String[] args) {
        int from = args.length > 0 ? Integer.parseInt(args[0]) : 0;
        int many = args.length > 1 ? Integer.parseInt(args[1]) : 150;
        int wrong = 0;
        for (int i = from; i < from + many; i++) {
            try {
                InternetHouse used = new InternetHouse();
                new RandomRuns(-1 - i, used).go(150);
                new RandomRuns(i, used).go(350);
            } catch (RuntimeException e) {
                wrong++;
                System.out.println("seed " + i + ": " + e);
                if (wrong < 4) {
                    e.printStackTrace(System.out);
                }
            }
        }
        System.out.println(wrong == 0 ? many + " random runs are right, digest " + digest : wrong + " random runs are not");
        if (wrong != 0) {
            System.exit(1);
        }
    }
}
