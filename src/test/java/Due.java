import java.util.NoSuchElementException;

/** What all tests use: asking a call for its answer or its exception, and bytes for the TAPE. */
final class Due {
    interface Call {
        long now();
    }

    private static int wrong;
    private static int asked;
    private static int sentences;
    private static String sentence = "";
    private static String document;

    private Due() {
    }

    static void is(String what, long want, Call c) {
        String got;
        try {
            got = Long.toString(c.now());
        } catch (RuntimeException e) {
            got = e.getClass().getSimpleName();
        }
        said(what, got, Long.toString(want));
    }

    static void said(String what, String got, String want) {
        asked++;
        if (!got.equals(want)) {
            wrong++;
            System.out.println((sentence.isEmpty() ? "" : "\"" + sentence + "\": ") + what + ": " + got + ", due is " + want);
        }
    }

    /** Names the sentence (or the part of one) of the document that what is asked from here on tests. */
    static void sentence(String words) {
        sentence = words;
        sentences++;
        if (!document().contains(words)) {
            said("stands in the document", "no", "yes");
        }
    }

    static String document() {
        try {
            if (document == null) {
                java.nio.file.Path p = java.nio.file.Path.of("../shared/DOC.md");
                document = java.nio.file.Files.readString(p, java.nio.charset.StandardCharsets.UTF_8);
            }
        } catch (java.io.IOException e) {
            document = "";
        }
        return document;
    }

    private static void fails(String what, Class<?> want, Call c) {
        String got;
        try {
            got = Long.toString(c.now());
        } catch (RuntimeException e) {
            got = e.getClass().getSimpleName();
        }
        said(what, got, want.getSimpleName());
    }

    static void missing(String what, Call c) {
        fails(what, NoSuchElementException.class, c);
    }

    static void argument(String what, Call c) {
        fails(what, IllegalArgumentException.class, c);
    }

    static void state(String what, Call c) {
        fails(what, IllegalStateException.class, c);
    }

    static void end(String name) {
        String of = sentences > 0 ? " of " + sentences + " sentences" : "";
        System.out.println(name + ": " + asked + " asked" + of + ", " + wrong + " wrong");
        if (wrong != 0) {
            System.exit(1);
        }
    }

    /** Four numbers as an ADDRESS. */
    static int a(int b0, int b1, int b2, int b3) {
        return b0 << 24 | b1 << 16 | b2 << 8 | b3;
    }

    static void feed(InternetHouse x, byte[] b) {
        x.end(0);
        int n = 0;
        while (n < b.length) {
            // twenty bytes must find room: at 480 a shorter step, if there are more than 500
            int step = n == 480 && b.length > 500 ? 12 : Math.min(20, b.length - n);
            int[] v = new int[5];
            for (int k = 0; k < step; k++) {
                v[k / 4] |= (b[n + k] & 255) << 24 - 8 * (k % 4);
            }
            x.feed(v[0], v[1], v[2], v[3], v[4]);
            n += step;
            x.end(n);
        }
    }

    static void feed(InternetHouse x, String s) {
        feed(x, s.getBytes(java.nio.charset.StandardCharsets.ISO_8859_1));
    }

    static String out(InternetHouse x) {
        StringBuilder s = new StringBuilder();
        for (int i = 0; i < x.octet(-1); i++) {
            s.append((char) x.octet(i));
        }
        return s.toString();
    }

    static void outIs(String what, InternetHouse x, String want) {
        said(what, out(x), want);
    }

    static byte[] bytes(int... v) {
        byte[] b = new byte[v.length];
        for (int i = 0; i < v.length; i++) {
            b[i] = (byte) v[i];
        }
        return b;
    }

    static byte[] join(byte[]... parts) {
        java.io.ByteArrayOutputStream s = new java.io.ByteArrayOutputStream();
        for (byte[] p : parts) {
            s.write(p, 0, p.length);
        }
        return s.toByteArray();
    }

    static byte[] word(int v) {
        return bytes(v >>> 24, v >>> 16, v >>> 8, v);
    }

    static int check(byte[] b) {
        int c = 65535;
        for (byte v : b) {
            c ^= (v & 255) << 8;
            for (int k = 0; k < 8; k++) {
                c = c >= 32768 ? (c << 1 & 65535) ^ 4129 : c << 1;
            }
        }
        return c;
    }

    static int sum(byte[] b) {
        int s = 0;
        for (int i = 0; i < b.length; i += 2) {
            s += (b[i] & 255) << 8 | (i + 1 < b.length ? b[i + 1] & 255 : 0);
        }
        while (s > 65535) {
            s = (s >>> 16) + (s & 65535);
        }
        return 65535 - s;
    }

    /** A FRAME with its CHECK. */
    static byte[] frame(int to, int from, int kind, byte[] body) {
        byte[] f = join(bytes(to, from, kind), body);
        int c = check(f);
        return join(f, bytes(c >> 8, c));
    }

    /** A PACKET with its SUM: first byte, PROTOCOL, HOPS, NAME, PIECE, FROM, TO, DATA. */
    static byte[] packet(int protocol, int hops, int name, int piece, int from, int to, byte[] data) {
        byte[] head = join(bytes(64, protocol, 18 + data.length, hops, name >> 8, name, piece, 0, 0, 0), word(from), word(to));
        int s = sum(head);
        head[8] = (byte) (s >> 8);
        head[9] = (byte) s;
        return join(head, data);
    }

    /** DATA with THE SUM of it put at a place. */
    static byte[] summed(byte[] data, int at) {
        byte[] d = data.clone();
        int s = sum(d);
        d[at] = (byte) (s >> 8);
        d[at + 1] = (byte) s;
        return d;
    }

    static byte[] datagram(int from, int to, byte[] data) {
        int n = 8 + data.length;
        return summed(join(bytes(from >> 8, from, to >> 8, to, n >> 8, n, 0, 0), data), 6);
    }

    static byte[] control(int type, int code, int one, int two, byte[] data) {
        return summed(join(bytes(type, code, 0, 0, one >> 8, one, two >> 8, two), data), 2);
    }

    /** Injects a PACKET at a PORT. */
    static int inject(InternetHouse x, int port, byte[] packet) {
        feed(x, frame(255, 99, 3, packet));
        return x.inject(port);
    }
}
