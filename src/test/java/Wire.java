import java.util.NoSuchElementException;

/** What goes over LINES, as bytes, and small houses, for the tests of boundary cases. */
final class Wire {
    static final int A1 = Due.a(10, 0, 0, 1);
    static final int A2 = Due.a(10, 0, 0, 2);
    static final int A3 = Due.a(10, 0, 0, 3);
    static final int B1 = Due.a(10, 0, 1, 1);
    static final int B2 = Due.a(10, 0, 1, 2);
    static final int GROUP = Due.a(224, 0, 0, 5);

    private Wire() {
    }

    /** NODES 0 and 1 of a kind, with a LINE from PORT 0 (10.0.0.1 / 24) to PORT 4 (10.0.0.2 / 24). */
    static InternetHouse pair(int kind) {
        return pair(kind, 0);
    }

    static InternetHouse pair(int kind, int seed) {
        InternetHouse x = new InternetHouse();
        x.begin(seed);
        x.node(kind);
        x.node(kind);
        x.line(0, 4, 1, 255, 148);
        x.address(0, A1, 24);
        x.address(4, A2, 24);
        return x;
    }

    /** HOST 0 (10.0.0.1) - ROUTER 1 (10.0.0.2, 10.0.1.1) - HOST 2 (10.0.1.2). */
    static InternetHouse chain(int size) {
        InternetHouse x = new InternetHouse();
        x.node(0);
        x.node(2);
        x.node(0);
        x.line(0, 4, 1, 255, 148);
        x.line(5, 8, 1, 255, size);
        x.address(0, A1, 24);
        x.address(4, A2, 24);
        x.address(5, B1, 24);
        x.address(8, B2, 24);
        x.route(0, 0, 0, A2, 1);
        x.route(2, 0, 0, B1, 1);
        return x;
    }

    /** A BRIDGE 0 with HOSTS 1 to 4 at its PORTS 0 to 3, that FORWARDS (TIME 6). */
    static InternetHouse star() {
        InternetHouse x = new InternetHouse();
        x.node(1);
        for (int i = 1; i < 5; i++) {
            x.node(0);
            x.line(i - 1, 4 * i, 1, 255, 148);
        }
        x.run(6);
        return x;
    }

    static void runs(InternetHouse x, int units) {
        for (int left = units; left > 0; left -= 40) {
            x.run(Math.min(40, left));
        }
    }

    static int draw(int chance) {
        return 1664525 * chance + 1013904223;
    }

    /** The i-th FRAME that a PORT sent, with its CHECK. */
    static byte[] sent(InternetHouse x, int port, int i) {
        byte[] b = new byte[x.seen(port, i, -1)];
        for (int k = 0; k < b.length; k++) {
            b[k] = (byte) x.seen(port, i, k);
        }
        return b;
    }

    /** The DATA of the PACKET in the i-th FRAME that a PORT sent. */
    static byte[] data(InternetHouse x, int port, int i) {
        byte[] f = sent(x, port, i);
        return f.length < 23 ? new byte[0] : java.util.Arrays.copyOfRange(f, 21, f.length - 2);
    }

    static int u16(byte[] b, int at) {
        return at + 1 < b.length ? (b[at] & 255) << 8 | b[at + 1] & 255 : -1;
    }

    static int u32(byte[] b, int at) {
        return at + 3 < b.length ? u16(b, at) << 16 | u16(b, at + 2) : -1;
    }

    static byte[] half(int v) {
        return Due.bytes(v >> 8, v);
    }

    static byte[] cut(byte[] b, int n) {
        return java.util.Arrays.copyOf(b, n);
    }

    static void frame(InternetHouse x, int port, byte[] frame) {
        Due.feed(x, frame);
        x.inject(port);
    }

    static byte[] find(int op, int link, int sender, int wanted) {
        return Due.frame(255, link, 2, Due.join(Due.bytes(op, link), Due.word(sender), Due.word(wanted)));
    }

    /** Makes an ADDRESS KNOWN at a PORT by an ASK for the PORT's own; its ANSWER waits to be sent then. */
    static void known(InternetHouse x, int port, int own, int who, int link) {
        frame(x, port, find(1, link, who, own));
    }

    static byte[] notice(int root, int cost, int name, int port, int age) {
        return Due.frame(255, 1, 1, Due.join(half(root), half(cost), half(name), Due.bytes(port, age)));
    }

    /** A SEGMENT as a PACKET of 10.0.0.1 to 10.0.0.2, port 7 to 80. */
    static byte[] segment(int number, int ack, int flags, int window, byte[] data) {
        return segment(7, number, ack, flags, window, data);
    }

    static byte[] segment(int from, int number, int ack, int flags, int window, byte[] data) {
        byte[] h = Due.join(half(from), half(80), Due.word(number), Due.word(ack), Due.bytes(flags, 0), half(window), half(0));
        return Due.packet(6, 9, 0, 64, A1, A2, Due.summed(Due.join(h, data), 16));
    }

    static byte[] piece(int name, int place, boolean more, int n) {
        return Due.packet(99, 9, name, place | (more ? 128 : 0), A2, A1, new byte[n]);
    }

    static byte[] lease(int type, int client, int id, int what, int bits, int life, int server, int gate) {
        return Due.packet(67, 1, 0, 0, A2, -1, Due.join(Due.bytes(type, client), half(id), Due.word(what),
            Due.bytes(bits), half(life), Due.word(server), Due.word(gate)));
    }

    static byte[] name(String s) {
        return Due.join(Due.bytes(s.length()), s.getBytes());
    }

    static byte[] question(int from, int to, int id, int kind, String name) {
        return Due.packet(53, 9, 0, 0, from, to, Due.join(Due.bytes(0), half(id), Due.bytes(kind), name(name)));
    }

    static byte[] reply(int from, int to, int id, int code, byte[]... rows) {
        return Due.packet(53, 9, 0, 0, from, to, Due.join(Due.bytes(1), half(id), Due.bytes(code, rows.length), Due.join(rows)));
    }

    static byte[] row(int kind, int life, String name, int value) {
        return Due.join(Due.bytes(kind), half(life), name(name), Due.word(value));
    }

    static byte[] row(int kind, int life, String name, String value) {
        return Due.join(Due.bytes(kind), half(life), name(name), name(value));
    }

    static byte[] noRow(int life, String zone) {
        return Due.join(Due.bytes(0), half(life), name(zone), Due.bytes(0));
    }

    static byte[] linked(byte[] data) {
        return Due.packet(89, 1, 0, 0, A2, -1, data);
    }

    static byte[] hello(int area, int id, int... heard) {
        return linked(Due.join(Due.bytes(1, area, id), Due.bytes(heard)));
    }

    /** A ROW of LINK that NEIGHBOUR 5 sends: links as ID and COST, nets as 8 bytes each. */
    static byte[] linkRow(int id, int number, int[] links, byte[]... nets) {
        return linked(Due.join(Due.bytes(2, 0, 5, id), Due.word(number), Due.bytes(links.length / 2), Due.bytes(links),
            Due.bytes(nets.length), Due.join(nets)));
    }

    static byte[] net(int net, int bits, int cost, int mark) {
        return Due.join(Due.word(net), Due.bytes(bits), half(cost), Due.bytes(mark));
    }

    static byte[] outer(int from, byte[] data) {
        return Due.packet(79, 9, 0, 0, from, A1, data);
    }

    static byte[] open(int which, int system, int node) {
        return Due.join(Due.bytes(1, which), half(system), Due.bytes(node));
    }

    static byte[] tell(int number, int net, int bits, int next, int origin, int med, int degree, int mark, int... systems) {
        byte[] d = Due.join(Due.bytes(3), half(number), Due.word(net), Due.bytes(bits), Due.word(next), Due.bytes(origin),
            half(med), half(degree), half(mark), Due.bytes(systems.length));
        for (int s : systems) {
            d = Due.join(d, half(s));
        }
        return d;
    }

    static byte[] takeBack(int number, int net, int bits) {
        return Due.join(Due.bytes(4), half(number), Due.word(net), Due.bytes(bits));
    }

    static byte[] distance(int from, int... nets) {
        byte[] d = new byte[0];
        for (int i = 0; i < nets.length; i += 3) {
            d = Due.join(d, Due.word(nets[i]), Due.bytes(nets[i + 1], nets[i + 2]));
        }
        return Due.packet(9, 1, 0, 0, from, -1, d);
    }

    /** How many ROWS look tells. */
    static int rows(InternetHouse x, int n, int what) {
        for (int i = 0; i < 3000; i++) {
            try {
                x.look(n, what, i, 0);
            } catch (NoSuchElementException e) {
                return i;
            }
        }
        return -1;
    }

    static long load(InternetHouse x, int n, int kind, String text) {
        Due.feed(x, text);
        return x.load(n, kind);
    }

    /** How many bytes the TAPE has; it stays. */
    static int tape(InternetHouse x) {
        for (int n = 512; n > 0; n--) {
            try {
                return x.end(n);
            } catch (IllegalArgumentException e) {
                continue;
            }
        }
        return 0;
    }
}
