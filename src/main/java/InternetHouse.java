import java.util.NoSuchElementException;

/**
 * A house of networks in modelled time.
 *
 * Whatever one thing sets going (a FRAME that ARRIVES, a CLOCK, a call) is done as a chain of small
 * jobs: what a job sends becomes the next jobs, ahead of all that waited before. So every sending
 * happens at once, as the document says, and yet no call goes deep.
 */
public final class InternetHouse {
    private static final int ALL = -1;
    private static final int HOST = 0;
    private static final int BRIDGE = 1;
    private static final int ROUTER = 2;
    private static final int HEAD = 18;
    private static final int LONG_AGO = -1000000;
    private static final int MANY = 1000000;
    private static final int DROP = 1;
    private static final int REFUSE = 2;

    private final World w = new World();
    private final Buf tape = new Buf(512);
    private final Buf out = new Buf(512);
    private final int[] wordAt = new int[260];
    private final int[] wordLen = new int[260];
    private int words;
    private int readNet;
    private int readBits;
    private final Table readRows = new Table(20, 24);
    private final Table readZones = new Table(6, 3);
    private final long[] readName = new long[4];

    private static long un(int a) {
        return a & 0xFFFFFFFFL;
    }

    private static boolean isGroup(int a) {
        return a >>> 24 == 224;
    }

    private static boolean isMany(int a) {
        return a == ALL || a >>> 24 == 224;
    }

    private static boolean inNet(int a, int net, int bits) {
        return bits <= 0 || (a ^ net) >>> (32 - Math.min(bits, 32)) == 0;
    }

    private static int netOf(int a, int bits) {
        if (bits <= 0) {
            return 0;
        }
        return bits >= 32 ? a : a & -1 << (32 - bits);
    }

    private static boolean isNet(int a, int bits) {
        return bits >= 0 && bits <= 32 && netOf(a, bits) == a;
    }

    /** A row of bytes: a FRAME, a PACKET, the TAPE; and, in a chain, a job with its numbers. */
    private static final class Buf {
        final int[] b;
        int len;
        int job;
        int node;
        int port;
        int x;
        int y;
        int via;
        int size;
        Buf next;

        Buf(int room) {
            b = new int[room];
        }

        int u8(int i) {
            return i >= 0 && i < len ? b[i] : 0;
        }

        int u16(int i) {
            return i >= 0 && i + 1 < len ? b[i] << 8 | b[i + 1] : 0;
        }

        int u32(int i) {
            return i >= 0 && i + 3 < len ? b[i] << 24 | b[i + 1] << 16 | b[i + 2] << 8 | b[i + 3] : 0;
        }

        void p8(int i, int v) {
            if (i >= 0 && i < b.length) {
                b[i] = v & 255;
            }
        }

        void p16(int i, int v) {
            if (i >= 0 && i + 1 < b.length) {
                b[i] = v >>> 8 & 255;
                b[i + 1] = v & 255;
            }
        }

        void p32(int i, int v) {
            if (i >= 0 && i + 3 < b.length) {
                b[i] = v >>> 24;
                b[i + 1] = v >>> 16 & 255;
                b[i + 2] = v >>> 8 & 255;
                b[i + 3] = v & 255;
            }
        }

        void a8(int v) {
            if (len < b.length) {
                b[len] = v & 255;
                len++;
            }
        }

        void a16(int v) {
            if (len + 1 < b.length) {
                b[len] = v >>> 8 & 255;
                b[len + 1] = v & 255;
                len += 2;
            }
        }

        void a32(int v) {
            if (len + 3 < b.length) {
                b[len] = v >>> 24;
                b[len + 1] = v >>> 16 & 255;
                b[len + 2] = v >>> 8 & 255;
                b[len + 3] = v & 255;
                len += 4;
            }
        }

        /** Puts n bytes of another one, from its place at on, behind what is here (as far as both go). */
        void append(Buf from, int at, int n) {
            if (at < 0) {
                return;
            }
            int k = Math.min(n, Math.min(from.len - at, b.length - len));
            if (k > 0) {
                System.arraycopy(from.b, at, b, len, k);
                len += k;
            }
        }

        /** Takes the first n bytes off. */
        void cutFront(int n) {
            int k = Math.max(0, Math.min(n, len));
            if (k < len) {
                System.arraycopy(b, k, b, 0, len - k);
            }
            len -= k;
        }

        /** THE SUM of the bytes from - to, with 0 for the two bytes at hole (-1: none). */
        int sum(int from, int to, int hole) {
            int end = Math.min(to, b.length);
            int s = 0;
            for (int i = Math.max(0, from); i < end; i += 2) {
                if (i != hole) {
                    s += b[i] << 8 | (i + 1 < end ? b[i + 1] : 0);
                }
            }
            for (int i = 0; i < 4 && s > 65535; i++) {
                s = (s >>> 16) + (s & 65535);
            }
            return 65535 - s;
        }

        /** CHECK of the first n bytes. */
        int check(int n) {
            int c = 65535;
            int end = Math.min(n, b.length);
            for (int i = 0; i < end; i++) {
                c ^= b[i] << 8;
                for (int k = 0; k < 8; k++) {
                    c = c >= 32768 ? (c << 1 & 65535) ^ 4129 : c << 1;
                }
            }
            return c;
        }
    }

    /** Rows of numbers in an order, at most so many; it grows up to that as it is used. */
    private static final class Table {
        final int width;
        final int most;
        long[] cells;
        int count;

        Table(int width, int most) {
            this.width = width;
            this.most = most;
            cells = new long[width * Math.min(most, 4)];
        }

        long at(int r, int c) {
            return r >= 0 && r < count && c >= 0 && c < width ? cells[r * width + c] : 0;
        }

        int get(int r, int c) {
            return r >= 0 && r < count && c >= 0 && c < width ? (int) cells[r * width + c] : 0;
        }

        void put(int r, int c, long v) {
            if (r >= 0 && r < count && c >= 0 && c < width) {
                cells[r * width + c] = v;
            }
        }

        /** The first six numbers of a row, as far as it is wide. */
        void fill(int r, long a, long b, long c, long d, long e, long f) {
            if (r < 0 || r >= count) {
                return;
            }
            for (int k = 0; k < width && k < 6; k++) {
                cells[r * width + k] = k == 0 ? a : k == 1 ? b : k == 2 ? c : k == 3 ? d : k == 4 ? e : f;
            }
        }

        /** A new row of 0 at place r, those from there on one further: r, or -1 without room. */
        int insert(int r) {
            if (count >= most || r < 0 || r > count) {
                return -1;
            }
            if ((count + 1) * width > cells.length) {
                long[] more = new long[Math.min(most, count * 2 + 4) * width];
                System.arraycopy(cells, 0, more, 0, count * width);
                cells = more;
            }
            System.arraycopy(cells, r * width, cells, (r + 1) * width, (count - r) * width);
            for (int c = 0; c < width; c++) {
                cells[r * width + c] = 0;
            }
            count++;
            return r;
        }

        void remove(int r) {
            if (r >= 0 && r < count) {
                count--;
                System.arraycopy(cells, (r + 1) * width, cells, r * width, (count - r) * width);
            }
        }

        int find(int c, long v) {
            for (int r = 0; r < count; r++) {
                if (c >= 0 && c < width && cells[r * width + c] == v) {
                    return r;
                }
            }
            return -1;
        }

        /** The first row with v at c and u at the place behind it. */
        int findPair(int c, long v, long u) {
            for (int r = 0; r < count; r++) {
                if (c >= 0 && c + 1 < width && cells[r * width + c] == v && cells[r * width + c + 1] == u) {
                    return r;
                }
            }
            return -1;
        }

        /** The first row with the least number at c; -1 without rows. */
        int least(int c) {
            int best = -1;
            for (int r = 0; r < count; r++) {
                if (c >= 0 && c < width && (best < 0 || cells[r * width + c] < cells[best * width + c])) {
                    best = r;
                }
            }
            return best;
        }

        /** Where a row for a NET stands: by the ADDRESS (without a sign) at c, then BITS behind it. */
        int placeOf(int c, int net, int bits) {
            int r = 0;
            while (r < count && c >= 0 && c + 1 < width) {
                long d = (cells[r * width + c] & 0xFFFFFFFFL) - (net & 0xFFFFFFFFL);
                if (d > 0 || d == 0 && cells[r * width + c + 1] >= bits) {
                    break;
                }
                r++;
            }
            return r;
        }

        /** Row r becomes row q of another table, as far as both are wide. */
        void copyRow(int r, Table from, int q) {
            if (r >= 0 && r < count && q >= 0 && q < from.count) {
                System.arraycopy(from.cells, q * from.width, cells, r * width, Math.min(width, from.width));
            }
        }

        void become(Table from) {
            count = 0;
            for (int r = 0; r < from.count && r < most; r++) {
                insert(r);
                copyRow(r, from, r);
            }
        }
    }

    /** All that is there, TIME, the LINES with the COPIES on them, and the jobs. */
    private static final class World {
        static final int UNIT = 1;
        static final int SENDS = 2;
        static final int FRAME = 3;
        static final int CLOCK = 4;
        static final int COME = 5;
        static final int TAKE = 6;
        static final int OWN = 7;
        static final int PASS = 8;
        static final int ON = 9;
        static final int CONTROL = 10;
        static final int STREAM = 11;
        static final int SEGMENT = 12;
        static final int DATAGRAM = 13;
        static final int DISTANCE = 14;
        static final int LINKED = 15;
        static final int OUTER = 16;
        static final int LEASE = 17;
        static final int TUNNEL = 18;
        static final int QUESTION = 19;
        static final int ANSWER = 20;
        static final int STEPS = 21;
        static final int PEER_IDLE = 22;
        static final int HEARD = 23;
        static final int FLOOD = 24;

        static final int LOST = 0;
        static final int SPOILT = 1;
        static final int TWICE = 2;
        static final int DELAY = 3;
        static final int RATE = 4;
        static final int SIZE = 5;
        static final int CUT = 6;
        static final int ENDS = 7;
        static final int CAPTURE = 9;
        static final int STOCK = 64;
        /**
         * More than all ROWS, COPIES, BOOKS and the like can hold, and more jobs than a UNIT has: only a TUNNEL
         * whose own PACKETS go into it, in ever more pieces, would come beyond, and have no end.
         */
        static final int MOST_MADE = 6000;
        static final int MOST_JOBS = 15000;

        int time;
        int chance;
        final Node[] nodes = new Node[12];
        int nodeCount;
        final Table lines = new Table(10, 20);
        final Buf[] captured = new Buf[20];
        Buf copies;
        Buf lastCopy;
        int copyCount;
        Buf jobs;
        Buf cursor;
        Buf free;
        int freeCount;
        int made;
        /** Stands in where no row is left, which stockUp does not let happen; what is put there is lost. */
        final Buf spare = new Buf(164);
        final Socket[] sockets = new Socket[32];
        int socketCount;
        /** How many LINES FRAMES go over from one PORT to each other one; -1: they do not come there. */
        final int[] reach = new int[48];
        final int[] queue = new int[48];
        final int[] dist = new int[12];

        World() {
            stockUp();
        }

        void beginAnew(int seed) {
            dropCopies(-1);
            for (int i = 0; i < lines.count; i++) {
                dropCaptured(i);
            }
            for (int i = 0; i < nodeCount; i++) {
                nodes[i].empty();
            }
            for (int i = 0; i < socketCount; i++) {
                sockets[i].empty();
            }
            lines.count = 0;
            nodeCount = 0;
            socketCount = 0;
            time = 0;
            chance = seed;
        }

        int draw() {
            chance = 1664525 * chance + 1013904223;
            return chance >>> 16;
        }

        Node nodeAt(int n) {
            return n >= 0 && n < nodeCount ? nodes[n] : null;
        }

        Port portAt(int p) {
            return p >= 0 && p / 4 < nodeCount ? nodes[p / 4].ports[p % 4] : null;
        }

        Socket socketAt(int s) {
            return s >= 0 && s < socketCount ? sockets[s] : null;
        }

        int addNode(int kind) {
            if (nodeCount >= nodes.length) {
                return -1;
            }
            if (nodes[nodeCount] == null) {
                nodes[nodeCount] = new Node(this, nodeCount);
            }
            nodes[nodeCount].become(kind);
            return nodeCount++;
        }

        Socket addSocket(Node n, int kind, int port) {
            if (socketCount >= sockets.length) {
                return null;
            }
            if (sockets[socketCount] == null) {
                sockets[socketCount] = new Socket(this, socketCount);
            }
            Socket s = sockets[socketCount];
            s.become(n, kind, port);
            socketCount++;
            return s;
        }

        /** Sees to it that there are rows for the next job: none takes as many as that. */
        private void stockUp() {
            while (freeCount < STOCK && made < MOST_MADE) {
                Buf b = new Buf(164);
                b.next = free;
                free = b;
                freeCount++;
                made++;
            }
        }

        Buf fetch() {
            Buf b = free;
            if (b == null) {
                b = spare;
            } else {
                free = b.next;
                freeCount--;
            }
            b.next = null;
            b.len = 0;
            b.port = -1;
            b.x = 0;
            b.y = 0;
            return b;
        }

        void release(Buf b) {
            if (b != spare) {
                b.next = free;
                free = b;
                freeCount++;
            }
        }

        /** A new job, behind those that the one that runs now has made, ahead of all others. */
        Buf make(int job, int node) {
            Buf b = free;
            if (b == null) {
                return spare;
            }
            free = b.next;
            freeCount--;
            b.job = job;
            b.node = node;
            b.len = 0;
            b.port = -1;
            b.x = 0;
            b.y = 0;
            if (cursor == null) {
                b.next = jobs;
                jobs = b;
            } else {
                b.next = cursor.next;
                cursor.next = b;
            }
            cursor = b;
            return b;
        }

        void post(Buf b) {
            if (cursor == null) {
                b.next = jobs;
                jobs = b;
            } else {
                b.next = cursor.next;
                cursor.next = b;
            }
            cursor = b;
        }

        /** Does all jobs. */
        void drain() {
            int done = 0;
            for (int i = 0; i < MANY && jobs != null; i++) {
                Buf j = jobs;
                jobs = j.next;
                j.next = null;
                cursor = null;
                Node n = nodeAt(j.node);
                if (n == null) {
                    done = 0;
                    unit(j.x);
                    release(j);
                    continue;
                }
                done++;
                if (done > MOST_JOBS) {
                    release(j);
                    continue;
                }
                if (n.stale) {
                    n.freshen();
                }
                switch (j.job) {
                    case SENDS: sends(n); break;
                    case FRAME: n.ports[j.port & 3].arrive(j); break;
                    case CLOCK: n.clock(j); break;
                    case COME: n.comeIn(j); break;
                    case TAKE: n.take(j); break;
                    case OWN: n.sendOwn(j); break;
                    case PASS: n.passNow(j); break;
                    case ON: n.passOn(j); break;
                    case CONTROL: n.control(j); break;
                    case STREAM: n.streamIn(j); break;
                    case SEGMENT:
                        Socket s = socketAt(j.x);
                        if (s != null) {
                            s.segment(j);
                        }
                        break;
                    case DATAGRAM: n.datagramIn(j); break;
                    case DISTANCE: n.ways.comeDistance(j); break;
                    case LINKED: n.link.come(j); break;
                    case OUTER: n.outer.come(j); break;
                    case LEASE: n.ports[j.port & 3].leaseIn(j); break;
                    case QUESTION: n.names.reply(j); break;
                    case ANSWER: n.names.comeAnswer(j); break;
                    case STEPS: n.names.steps(j.x); break;
                    case TUNNEL: n.guard.unwrap(j); break;
                    case PEER_IDLE: n.outer.idle(j.x); break;
                    case HEARD: n.outer.hear(j); break;
                    case FLOOD: n.link.flood(j.x, j.y, j.via); break;
                    default: break;
                }
                release(j);
                if (freeCount < STOCK) {
                    stockUp();
                }
            }
            cursor = null;
        }

        private void unit(int left) {
            time++;
            Buf before = null;
            Buf c = copies;
            for (int i = 0; i < MANY && c != null; i++) {
                Buf after = c.next;
                if (c.x == time) {
                    unlinkCopy(before, c);
                    c.job = FRAME;
                    post(c);
                } else {
                    before = c;
                }
                c = after;
            }
            for (int i = 0; i < nodeCount; i++) {
                if (nodes[i].up) {
                    make(CLOCK, i);
                }
            }
            for (int i = 0; i < nodeCount; i++) {
                if (nodes[i].up) {
                    make(SENDS, i);
                }
            }
            if (left > 1) {
                make(UNIT, -1).x = left - 1;
            }
        }

        private void unlinkCopy(Buf before, Buf c) {
            if (before == null) {
                copies = c.next;
            } else {
                before.next = c.next;
            }
            if (lastCopy == c) {
                lastCopy = before;
            }
            c.next = null;
            copyCount--;
        }

        /** The COPIES on a LINE are lost (-1: on all). */
        void dropCopies(int line) {
            Buf before = null;
            Buf c = copies;
            for (int i = 0; i < MANY && c != null; i++) {
                Buf after = c.next;
                if (line < 0 || c.y == line) {
                    unlinkCopy(before, c);
                    release(c);
                } else {
                    before = c;
                }
                c = after;
            }
        }

        private void sends(Node n) {
            for (int k = 0; k < 4; k++) {
                Port p = n.ports[k];
                Buf f = p.nextFrame();
                if (f != null) {
                    f.a16(f.check(f.len));
                    launch(p, f);
                    p.keepSeen(f);
                }
            }
        }

        private void launch(Port p, Buf f) {
            int line = p.line;
            int rate = Math.max(1, lines.get(line, RATE));
            p.busy = time + (f.len + rate - 1) / rate;
            takeDown(p, f);
            int lost = lines.get(line, LOST);
            if (lost != 0 && draw() % 256 < lost) {
                return;
            }
            int spoilt = lines.get(line, SPOILT);
            int turned = -1;
            if (spoilt != 0 && draw() % 256 < spoilt) {
                turned = draw();
            }
            int twice = lines.get(line, TWICE);
            boolean second = twice != 0 && draw() % 256 < twice;
            int at = p.busy + lines.get(line, DELAY);
            addCopy(p, f, turned, at);
            if (second) {
                addCopy(p, f, turned, at + 1);
            }
        }

        private void addCopy(Port p, Buf f, int turned, int at) {
            if (copyCount >= 150 || f.len < 1) {
                return;
            }
            Buf c = fetch();
            c.append(f, 0, f.len);
            if (turned >= 0) {
                int k = turned / 8 % f.len;
                c.p8(k, f.u8(k) ^ 1 << turned % 8);
            }
            c.x = at;
            c.y = p.line;
            c.node = p.far / 4;
            c.port = p.far % 4;
            if (lastCopy == null) {
                copies = c;
            } else {
                lastCopy.next = c;
            }
            lastCopy = c;
            copyCount++;
        }

        private void takeDown(Port p, Buf f) {
            int line = p.line;
            if (lines.get(line, CAPTURE) == 0 || line < 0 || line >= captured.length) {
                return;
            }
            Buf last = null;
            int n = 0;
            for (Buf c = captured[line]; c != null && n < 12; c = c.next) {
                last = c;
                n++;
            }
            if (n >= 12) {
                return;
            }
            Buf c = fetch();
            c.append(f, 0, f.len);
            c.x = time;
            c.y = p.number;
            if (last == null) {
                captured[line] = c;
            } else {
                last.next = c;
            }
        }

        void dropCaptured(int line) {
            for (int i = 0; i < 12 && line >= 0 && line < captured.length && captured[line] != null; i++) {
                Buf c = captured[line];
                captured[line] = c.next;
                release(c);
            }
        }

        boolean whole(int line) {
            return line >= 0 && line < lines.count && lines.get(line, CUT) == 0;
        }

        // a plain look at the whole map

        /** How far FRAMES that a PORT sends come. */
        private void spread(int from) {
            for (int i = 0; i < 48; i++) {
                reach[i] = -1;
            }
            int head = 0;
            int tail = 1;
            queue[0] = from;
            int seenOut = 0;
            long gone = 1L << from;
            while (head < tail && head < 48 && seenOut < 1000) {
                seenOut++;
                Port x = portAt(queue[head]);
                int far = x == null || !x.whole ? -1 : x.far;
                int lines = head == 0 ? 1 : reach[queue[head]] + 1;
                head++;
                if (far < 0 || far > 47 || reach[far] >= 0) {
                    continue;
                }
                reach[far] = lines;
                Node b = nodeAt(far / 4);
                if (b == null || b.kind != BRIDGE || !b.up || !b.bridge.forwards(far % 4)) {
                    continue;
                }
                for (int k = 0; k < 4; k++) {
                    int p = far / 4 * 4 + k;
                    if (p != far && (gone >> p & 1) == 0 && b.bridge.forwards(k) && tail < 48) {
                        gone |= 1L << p;
                        reach[p] = lines;
                        queue[tail] = p;
                        tail++;
                    }
                }
            }
        }

        /** The first NODE but one, UP, with an ADDRESS at a PORT that is reached: that PORT; -1 none. */
        private int holder(int but, int who) {
            for (int p = 0; p < 4 * nodeCount; p++) {
                Node n = nodeAt(p / 4);
                Port q = portAt(p);
                if (p / 4 != but && n != null && q != null && n.kind != BRIDGE && n.up && q.bits > 0
                        && q.address == who && reach[p % 48] > 0) {
                    return p;
                }
            }
            return -1;
        }

        int hops(int a, int to) {
            Node first = nodeAt(a);
            if (first == null) {
                return -1;
            }
            int from = first.leastAddress();
            int lines = 0;
            Node n = first;
            for (int i = 0; i <= 32; i++) {
                if (n.owns(to)) {
                    return lines;
                }
                if (n.stale) {
                    n.freshen();
                }
                if (i == 32 || n.kind == HOST && n.num != a || !n.ways.find(from, to, 4) || n.ways.port < 0) {
                    return -1;
                }
                spread(4 * n.num + n.ways.port);
                int p = holder(n.num, n.ways.next);
                Node next = nodeAt(p < 0 ? -1 : p / 4);
                if (next == null) {
                    return -1;
                }
                lines += reach[p % 48];
                n = next;
            }
            return -1;
        }

        private boolean links(int i) {
            Node n = nodeAt(i);
            return n != null && n.kind == ROUTER && n.up && n.link.on;
        }

        /** Whether PORT q, of another ROUTER with LINK ON, is connected with PORT p, from which it spread. */
        private boolean joined(Port p, Port q) {
            return p.n != q.n && links(q.n.num) && q.bits > 0 && p.area == q.area && reach[q.number % 48] > 0
                    && inNet(q.address, p.address, p.bits) && inNet(p.address, q.address, q.bits);
        }

        /** The PORTS of ROUTERS with LINK ON that have an ADDRESS; null for others. */
        private Port linkPort(int p) {
            Port x = links(p / 4) ? portAt(p) : null;
            return x != null && x.bits > 0 ? x : null;
        }

        int distance(int a, int b) {
            if (!links(a) || !links(b)) {
                return -1;
            }
            for (int i = 0; i < 12; i++) {
                dist[i] = i == a ? 0 : -1;
            }
            boolean more = true;
            for (int round = 0; round < 12 && more; round++) {
                more = false;
                for (int p = 0; p < 4 * nodeCount; p++) {
                    Port x = linkPort(p);
                    if (x != null && dist[p / 4] >= 0) {
                        more = relax(x) || more;
                    }
                }
            }
            return dist[b];
        }

        private boolean relax(Port x) {
            boolean more = false;
            spread(x.number);
            for (int q = 0; q < 4 * nodeCount; q++) {
                Port y = portAt(q);
                int d = dist[x.n.num] + x.cost;
                if (y != null && y.n.kind == ROUTER && joined(x, y) && (dist[q / 4] < 0 || d < dist[q / 4])) {
                    dist[q / 4] = d;
                    more = true;
                }
            }
            return more;
        }

        /** 1 if all ROUTERS that are connected have the same BOOKS. */
        int agree() {
            for (int p = 0; p < 4 * nodeCount; p++) {
                Port x = linkPort(p);
                if (x == null) {
                    continue;
                }
                spread(p);
                for (int q = 0; q < 4 * nodeCount; q++) {
                    Port y = portAt(q);
                    if (y != null && y.n.kind == ROUTER && joined(x, y) && !sameBook(x.n.link, y.n.link, x.area)) {
                        return 0;
                    }
                }
            }
            return 1;
        }

        private boolean sameBook(Link a, Link b, int area) {
            for (int id = 0; id < 12; id++) {
                Buf r = a.rowAt(area, id);
                Buf s = b.rowAt(area, id);
                if (r == null && s == null) {
                    continue;
                }
                if (r == null || s == null || r.len != s.len) {
                    return false;
                }
                for (int i = 0; i < r.len; i++) {
                    if (r.u8(i) != s.u8(i)) {
                        return false;
                    }
                }
            }
            return true;
        }

        private boolean isBridge(int i) {
            Node n = nodeAt(i);
            return n != null && n.kind == BRIDGE && n.up;
        }

        /** Gives all BRIDGES that LINES join (only: by PORTS that FORWARD) the same number, in dist. */
        private void joinSets(boolean only) {
            for (int i = 0; i < 12; i++) {
                dist[i] = isBridge(i) ? i : -1;
            }
            for (int round = 0; round < 12; round++) {
                for (int l = 0; l < lines.count; l++) {
                    int a = lines.get(l, ENDS) / 4 % 12;
                    int b = lines.get(l, ENDS + 1) / 4 % 12;
                    if (joins(l) && (!only || forwardsBoth(l))) {
                        int least = Math.min(dist[a], dist[b]);
                        dist[a] = least;
                        dist[b] = least;
                    }
                }
            }
        }

        private boolean joins(int l) {
            return whole(l) && isBridge(lines.get(l, ENDS) / 4)
                    && isBridge(lines.get(l, ENDS + 1) / 4);
        }

        private boolean forwardsBoth(int l) {
            Port p = portAt(lines.get(l, ENDS));
            Port q = portAt(lines.get(l, ENDS + 1));
            return p != null && q != null && p.n.bridge.forwards(p.index()) && q.n.bridge.forwards(q.index());
        }

        /** How many sets of joined BRIDGES are no tree: too many LINES, or parts that are not joined. */
        int loops() {
            joinSets(true);
            int parts = 0;
            for (int i = 0; i < 12; i++) {
                parts |= dist[i] == i ? 1 << i : 0;
            }
            joinSets(false);
            int bad = 0;
            for (int set = 0; set < 12; set++) {
                int many = 0;
                int apart = 0;
                for (int i = 0; i < 12; i++) {
                    many += dist[i] == set ? 1 : 0;
                    apart += dist[i] == set && (parts >> i & 1) == 1 ? 1 : 0;
                }
                int edges = 0;
                for (int l = 0; l < lines.count; l++) {
                    if (joins(l) && dist[lines.get(l, ENDS) / 4 % 12] == set && forwardsBoth(l)) {
                        edges++;
                    }
                }
                bad += many > 0 && (apart != 1 || edges != many - 1) ? 1 : 0;
            }
            return bad;
        }
    }

    /** A PORT: its ROWS of FRAMES, FINDING, and LEASES. */
    private static final class Port {
        static final int DEFICIT = 3;
        static final int TURN = 6;
        static final int FILL = 7;
        static final int BUCKET = 8;
        static final int TOKENS = 9;
        static final int TRIAL = 10;
        static final int TRIAL_TURN = 13;
        static final int HAS = 0;
        static final int TILL = 1;
        static final int LAST = 2;
        static final int OFFERED = 3;
        static final int OFFER_TIME = 4;
        static final int ON = 0;
        static final int STATE = 1;
        static final int NUMBER = 2;
        static final int SERVER = 3;
        static final int SINCE = 4;
        static final int RENEWED = 5;
        static final int GIVEN = 6;
        static final int LIFE = 7;

        final World w;
        final Node n;
        final int number;
        int line;
        boolean whole;
        int far;
        int address;
        int bits;
        int busy;
        int cost;
        int area;
        final Buf[] heads = new Buf[4];
        /** QUANTA, then what the constants say, then DEFICITS and TURN as a search would leave them. */
        final int[] sched = new int[14];
        final Buf[] seenOnes = new Buf[4];
        final Table found = new Table(3, 8);
        final Table waits = new Table(4, 4);
        Buf held;
        final int[] lend = new int[3];
        final Table lent = new Table(5, 16);
        final int[] borrow = new int[8];

        Port(World w, Node n, int number) {
            this.w = w;
            this.n = n;
            this.number = number;
        }

        /** As at first. */
        void reset() {
            line = -1;
            whole = false;
            far = -1;
            address = 0;
            bits = 0;
            busy = 0;
            cost = 10;
            area = 0;
            for (int i = 0; i < sched.length; i++) {
                sched[i] = i < 3 ? 64 : 0;
            }
            lend[1] = 0;
            lent.count = 0;
            for (int i = 0; i < borrow.length; i++) {
                borrow[i] = 0;
            }
            clear();
            for (int i = 0; i < 4; i++) {
                if (seenOnes[i] != null) {
                    w.release(seenOnes[i]);
                    seenOnes[i] = null;
                }
            }
        }

        /** What is under way here is gone: FRAMES in ROWS, what was FOUND, what WAITS. */
        void clear() {
            for (int c = 0; c < 4; c++) {
                for (int i = 0; i < 9 && heads[c] != null; i++) {
                    w.release(unrow(c));
                }
            }
            for (int c = 0; c < 3; c++) {
                sched[DEFICIT + c] = 0;
            }
            sched[TURN] = 0;
            sched[TOKENS] = sched[BUCKET];
            forget();
        }

        /** What it had FOUND and what WAITS is gone. */
        void forget() {
            found.count = 0;
            waits.count = 0;
            for (int i = 0; i < 100 && held != null; i++) {
                Buf b = held;
                held = b.next;
                w.release(b);
            }
        }

        /** Whether it has an ADDRESS and a LINE that is whole. */
        boolean live() {
            return bits > 0 && whole;
        }

        int index() {
            return number % 4;
        }

        private Buf unrow(int c) {
            Buf f = heads[c];
            heads[c] = f.next;
            f.next = null;
            return f;
        }

        /** Puts a FRAME (without CHECK) into the ROW of its CLASS; it is this PORT's from then on. */
        void enqueue(Buf f) {
            int c = f.u8(2) == 3 && f.len > 3 ? f.u8(3) & 3 : 3;
            Buf last = null;
            int many = 0;
            for (Buf g = heads[c]; g != null && many < 8; g = g.next) {
                last = g;
                many++;
            }
            f.next = null;
            if (line < 0 || many >= 8) {
                if (line >= 0) {
                    n.counts[3]++;
                }
                w.release(f);
            } else if (last == null) {
                heads[c] = f;
            } else {
                last.next = f;
            }
        }

        /** A FRAME that ARRIVES. */
        void arrive(Buf f) {
            if (!n.up) {
                return;
            }
            if (f.len < 5 || f.u16(f.len - 2) != f.check(f.len - 2)) {
                n.counts[2]++;
                return;
            }
            n.counts[1]++;
            f.len -= 2;
            if (n.kind == BRIDGE) {
                n.bridge.hear(this, f);
                return;
            }
            if (f.u8(0) != number + 1 && f.u8(0) != 255) {
                return;
            }
            if (f.u8(2) == 2) {
                findIn(f);
            } else if (f.u8(2) == 3) {
                Buf p = w.make(World.COME, n.num);
                p.append(f, 3, f.len - 3);
                p.port = index();
            }
        }

        private void findIn(Buf f) {
            int op = f.u8(3);
            if (bits == 0 || f.len != 13 || op != 1 && op != 2) {
                return;
            }
            int link = f.u8(4);
            int sender = f.u32(5);
            if (sender == address) {
                n.counts[7]++;
            } else if (op == 1 && f.u32(9) == address) {
                know(sender, link);
                find(2, link, sender);
            } else if (found.find(0, sender) >= 0 || waits.find(0, sender) >= 0) {
                know(sender, link);
            }
        }

        /** Sends a FIND. */
        private void find(int op, int link, int wanted) {
            Buf f = w.fetch();
            f.a8(link);
            f.a8(number + 1);
            f.a8(2);
            f.a8(op);
            f.a8(number + 1);
            f.a32(address);
            f.a32(wanted);
            enqueue(f);
        }

        private void know(int who, int link) {
            int r = found.find(0, who);
            if (r < 0) {
                if (found.count >= found.most) {
                    found.remove(found.least(2));
                }
                r = found.insert(found.count);
            }
            found.fill(r, who, link, w.time, 0, 0, 0);
            waits.remove(waits.find(0, who));
            for (int i = 0; i < 4; i++) {
                Buf p = unhold(who);
                if (p != null) {
                    frame(p, link);
                    w.release(p);
                }
            }
        }

        /** The oldest PACKET that WAITS for an ADDRESS, taken out; null without one. */
        private Buf unhold(int who) {
            Buf before = null;
            Buf p = held;
            for (int i = 0; i < 100 && p != null && p.x != who; i++) {
                before = p;
                p = p.next;
            }
            if (p == null) {
                return null;
            }
            if (before == null) {
                held = p.next;
            } else {
                before.next = p.next;
            }
            p.next = null;
            return p;
        }

        void frame(Buf p, int link) {
            Buf f = w.fetch();
            f.a8(link);
            f.a8(number + 1);
            f.a8(3);
            f.append(p, 0, p.len);
            enqueue(f);
        }

        /** PASSES a PACKET to an ADDRESS here. */
        void pass(Buf p, int to) {
            if (line < 0) {
                return;
            }
            if (isMany(to)) {
                frame(p, 255);
                return;
            }
            int r = found.find(0, to);
            if (r >= 0 && w.time - found.get(r, 2) <= 60) {
                frame(p, found.get(r, 1));
            } else if (holdFor(p, to)) {
                find(1, 255, to);
            }
        }

        /** Lets a PACKET WAIT: whether it is the first one that does for the ADDRESS. */
        private boolean holdFor(Buf p, int to) {
            int r = waits.find(0, to);
            boolean first = r < 0;
            if (first) {
                r = waits.insert(waits.count);
                if (r < 0) {
                    return false;
                }
                waits.put(r, 0, to);
                waits.put(r, 1, 1);
                waits.put(r, 2, w.time);
            }
            if (waits.get(r, 3) >= 3) {
                Buf old = unhold(to);
                if (old != null) {
                    w.release(old);
                }
            } else {
                waits.put(r, 3, waits.get(r, 3) + 1);
            }
            Buf b = w.fetch();
            b.append(p, 0, p.len);
            b.x = to;
            Buf last = held;
            for (int i = 0; i < 100 && last != null && last.next != null; i++) {
                last = last.next;
            }
            if (last == null) {
                held = b;
            } else {
                last.next = b;
            }
            return first;
        }

        /** CLOCK for the k-th ADDRESS that is WAITED for: whether it is WAITED for no more. */
        boolean waitClock(int k) {
            if (w.time - waits.get(k, 2) < 8) {
                return false;
            }
            int who = waits.get(k, 0);
            if (waits.get(k, 1) < 3) {
                waits.put(k, 1, waits.get(k, 1) + 1);
                waits.put(k, 2, w.time);
                find(1, 255, who);
                return false;
            }
            waits.remove(k);
            for (int i = 0; i < 4; i++) {
                Buf p = unhold(who);
                if (p != null) {
                    n.tell(p, 3, 1, 0);
                    w.release(p);
                }
            }
            return true;
        }

        /** The FRAME that goes now, taken out of its ROW; null if none may go. */
        Buf nextFrame() {
            if (sched[FILL] > 0) {
                sched[TOKENS] = Math.min(sched[BUCKET], sched[TOKENS] + sched[FILL]);
            }
            if (!whole || busy > w.time) {
                return null;
            }
            int c = heads[3] != null ? 3 : chooseClass();
            if (c < 0) {
                return null;
            }
            if (sched[FILL] > 0) {
                if (sched[TOKENS] < heads[c].len + 2) {
                    return null;
                }
                sched[TOKENS] -= heads[c].len + 2;
            }
            if (c < 3) {
                for (int i = 0; i < 4; i++) {
                    sched[DEFICIT + i] = sched[TRIAL + i];
                }
            }
            n.counts[0]++;
            return unrow(c);
        }

        /** The CLASS of 0 to 2 that goes next (-1: none); what DEFICITS and TURN are then is behind TRIAL. */
        private int chooseClass() {
            if (heads[0] == null && heads[1] == null && heads[2] == null) {
                return -1;
            }
            for (int i = 0; i < 4; i++) {
                sched[TRIAL + i] = sched[DEFICIT + i];
            }
            for (int i = 0; i < 2000; i++) {
                int c = sched[TRIAL_TURN] % 3;
                Buf f = heads[c];
                if (f == null) {
                    sched[TRIAL + c] = 0;
                } else if (f.len + 2 <= sched[TRIAL + c]) {
                    sched[TRIAL + c] -= f.len + 2;
                    return c;
                }
                c = (c + 1) % 3;
                sched[TRIAL_TURN] = c;
                sched[TRIAL + c] += sched[c];
            }
            return -1;
        }

        void keepSeen(Buf f) {
            if (seenOnes[3] != null) {
                w.release(seenOnes[3]);
            }
            for (int i = 3; i > 0; i--) {
                seenOnes[i] = seenOnes[i - 1];
            }
            seenOnes[0] = f;
            f.x = w.time;
            f.next = null;
        }

        // LEASES

        private Buf leasePacket(int type, int client, int id) {
            Buf p = n.direct(this, 67, ALL);
            p.p8(0, 64);
            p.p32(10, bits > 0 ? address : 0);
            p.a8(type);
            p.a8(client);
            p.a16(id);
            return p;
        }

        private void want() {
            borrow[NUMBER] = w.draw();
            borrow[SINCE] = w.time;
            Buf p = leasePacket(1, number, borrow[NUMBER]);
            for (int i = 0; i < 15; i++) {
                p.a8(0);
            }
        }

        private void takeLease(int wanted) {
            Buf p = leasePacket(3, number, borrow[NUMBER]);
            p.a32(wanted);
            p.a8(0);
            p.a16(0);
            p.a32(borrow[SERVER]);
            p.a32(0);
        }

        /** CLOCK of a PORT that BORROWS: which PORT is next. */
        int leaseClock() {
            int after = index() < 3 ? index() + 1 : -1;
            if (borrow[ON] == 0) {
                return after;
            }
            if (borrow[STATE] == 3) {
                if (w.time - borrow[GIVEN] >= borrow[LIFE]) {
                    loseLease();
                } else if (w.time - borrow[GIVEN] >= borrow[LIFE] / 2 && w.time - borrow[RENEWED] >= 12) {
                    borrow[RENEWED] = w.time;
                    takeLease(address);
                }
            } else if (borrow[STATE] == 2 && w.time - borrow[SINCE] >= 12) {
                startWanting();
            }
            if (borrow[STATE] == 1 && w.time - borrow[SINCE] >= 12) {
                want();
            }
            return after;
        }

        void startWanting() {
            borrow[STATE] = 1;
            borrow[SINCE] = LONG_AGO;
        }

        /** The ADDRESS and the FIXED row that it gave are gone; it WANTS. */
        void loseLease() {
            if (borrow[STATE] == 3) {
                address = 0;
                bits = 0;
                forget();
                n.ways.dropLeased(index());
                n.stale = true;
            }
            startWanting();
        }

        void borrowing(boolean on) {
            if (on && borrow[ON] == 0) {
                borrow[ON] = 1;
                borrow[NUMBER] = 0;
                borrow[RENEWED] = LONG_AGO;
                startWanting();
            } else if (!on && borrow[ON] == 1) {
                loseLease();
                borrow[ON] = 0;
                borrow[STATE] = 0;
            }
        }

        void lending(int from, int many, int life) {
            lend[0] = from;
            lend[1] = many;
            lend[2] = life;
            lent.count = 0;
            for (int i = 0; i < many; i++) {
                lent.insert(i);
                lent.put(i, HAS, -1);
                lent.put(i, LAST, -1);
                lent.put(i, OFFERED, -1);
            }
        }

        void leaseIn(Buf p) {
            int client = p.u8(HEAD + 1);
            int type = p.u8(HEAD);
            if (p.port < 0 || p.len != HEAD + 19 || client > 47) {
                return;
            }
            if (type == 1 && lend[1] > 0) {
                offer(client, p.u16(HEAD + 2));
            } else if (type == 3 && lend[1] > 0) {
                takenBy(client, p);
            } else if (borrow[ON] == 1 && client == number && p.u16(HEAD + 2) == borrow[NUMBER]) {
                if (type == 2 && borrow[STATE] == 1) {
                    borrow[SERVER] = p.u32(HEAD + 11);
                    borrow[SINCE] = w.time;
                    borrow[STATE] = 2;
                    takeLease(p.u32(HEAD + 4));
                } else if (type == 4 && borrow[STATE] >= 2) {
                    given(p);
                } else if (type == 5 && borrow[STATE] >= 2) {
                    loseLease();
                }
            }
        }

        boolean hasNow(int r) {
            return lent.get(r, HAS) >= 0 && w.time < lent.get(r, TILL);
        }

        private void offer(int client, int id) {
            int best = -1;
            for (int r = lent.count - 1; r >= 0; r--) {
                int to = lent.get(r, OFFERED);
                boolean open = to < 0 || to == client || w.time - lent.get(r, OFFER_TIME) > 20;
                boolean his = lent.get(r, LAST) == client;
                boolean bestHis = best >= 0 && lent.get(best, LAST) == client;
                if (open && (his || !hasNow(r) && !bestHis)) {
                    best = r;
                }
            }
            if (best >= 0) {
                lent.put(best, OFFERED, client);
                lent.put(best, OFFER_TIME, w.time);
                grant(2, client, id, lend[0] + best);
            }
        }

        /** OFFER (2) or GIVEN (4). */
        private void grant(int type, int client, int id, int what) {
            Buf p = leasePacket(type, client, id);
            p.a32(what);
            p.a8(bits);
            p.a16(lend[2]);
            p.a32(address);
            p.a32(address);
            if (type == 2) {
                p.x = client + 1;
            }
        }

        private void takenBy(int client, Buf p) {
            int what = p.u32(HEAD + 4);
            if (p.u32(HEAD + 11) != address) {
                for (int r = 0; r < lent.count; r++) {
                    if (lent.get(r, OFFERED) == client) {
                        lent.put(r, OFFERED, -1);
                    }
                }
                return;
            }
            int i = what - lend[0];
            boolean mine = i >= 0 && i < lent.count;
            if (!mine || hasNow(i) && lent.get(i, HAS) != client) {
                Buf q = leasePacket(5, client, p.u16(HEAD + 2));
                q.a32(what);
                q.a8(0);
                q.a16(0);
                q.a32(address);
                q.a32(0);
                return;
            }
            for (int r = 0; r < lent.count; r++) {
                if (lent.get(r, HAS) == client) {
                    lent.put(r, HAS, -1);
                }
            }
            lent.put(i, HAS, client);
            lent.put(i, LAST, client);
            lent.put(i, TILL, w.time + lend[2]);
            lent.put(i, OFFERED, -1);
            grant(4, client, p.u16(HEAD + 2), what);
        }

        private void given(Buf p) {
            int what = p.u32(HEAD + 4);
            int b = p.u8(HEAD + 8);
            if (b < 1 || b > 31 || what == 0 || isMany(what)) {
                return;
            }
            for (int i = 0; i < 4; i++) {
                Port q = n.ports[i];
                if (q != this && q.bits > 0 && q.address == what) {
                    return;
                }
            }
            if (bits == 0 || address != what) {
                forget();
            }
            address = what;
            bits = b;
            n.ways.dropLeased(index());
            n.ways.addFixed(0, 0, p.u32(HEAD + 15), 1, index());
            borrow[STATE] = 3;
            borrow[GIVEN] = w.time;
            borrow[LIFE] = p.u16(HEAD + 9);
            n.stale = true;
        }
    }

    /** What makes a NODE a BRIDGE: NOTICES, ROLES and LEARNED ROWS. */
    private static final class Bridge {
        static final int NOTICE = 1;
        static final int BLOCKED = 3;

        final World w;
        final Node n;
        int rank;
        int root;
        int rootCost;
        int rootPort;
        final int[][] heard = new int[4][7];
        final int[] role = new int[4];
        final int[] since = new int[4];
        final int[] vector = new int[4];
        final Table learned = new Table(3, 12);

        Bridge(World w, Node n) {
            this.w = w;
            this.n = n;
        }

        int name() {
            return 256 * rank + n.num;
        }

        /** All that it found is gone. */
        void clear() {
            root = name();
            rootCost = 0;
            rootPort = -1;
            learned.count = 0;
            for (int i = 0; i < 4; i++) {
                heard[i][0] = 0;
                role[i] = 0;
                since[i] = 0;
            }
        }

        boolean forwards(int i) {
            return i >= 0 && i < 4 && (role[i] == 1 || role[i] == 2) && w.time - since[i] >= 4;
        }

        /** A FRAME (without its CHECK) that ARRIVED. */
        void hear(Port p, Buf f) {
            int i = p.index();
            if (f.u8(2) == NOTICE) {
                if (f.len == 11 && f.u8(10) <= 6) {
                    notice(heard[i], f);
                }
                return;
            }
            if (!forwards(i)) {
                return;
            }
            int from = f.u8(1);
            if (from >= 1 && from <= 48) {
                learn(from, i);
            }
            int r = learned.find(0, f.u8(0));
            boolean fresh = r >= 0 && w.time - learned.get(r, 2) <= 30;
            for (int k = 0; k < 4; k++) {
                if (k != i && forwards(k) && (!fresh || learned.get(r, 1) == k)) {
                    Buf g = w.fetch();
                    g.append(f, 0, f.len);
                    n.ports[k].enqueue(g);
                }
            }
        }

        private void notice(int[] h, Buf f) {
            int[] v = vector;
            v[0] = f.u16(3);
            v[1] = f.u16(5);
            v[2] = f.u16(7);
            v[3] = f.u8(9);
            if (h[0] == 1) {
                int d = 0;
                for (int k = 0; k < 4 && d == 0; k++) {
                    d = v[k] - h[1 + k];
                }
                if (d > 0 && (v[2] != h[3] || v[3] != h[4])) {
                    return;
                }
            }
            h[0] = 1;
            for (int k = 0; k < 4; k++) {
                h[1 + k] = v[k];
            }
            h[5] = f.u8(10);
            h[6] = w.time;
            workOut();
        }

        /** The LEARNED ROW of a LINK ADDRESS gets a PORT and TIME; ROWS stand by LINK ADDRESSES. */
        private void learn(int who, int i) {
            int r = learned.find(0, who);
            if (r < 0) {
                if (learned.count >= learned.most) {
                    learned.remove(learned.least(2));
                }
                r = 0;
                while (r < learned.count && learned.get(r, 0) < who) {
                    r++;
                }
                learned.insert(r);
                learned.put(r, 0, who);
            }
            learned.put(r, 1, i);
            learned.put(r, 2, w.time);
        }

        void clock() {
            for (int i = 0; i < 4; i++) {
                if (heard[i][0] == 1 && w.time - heard[i][6] >= 8) {
                    heard[i][0] = 0;
                }
            }
            workOut();
            if (w.time % 2 != 0) {
                return;
            }
            for (int i = 0; i < 4; i++) {
                if (role[i] == 2 && n.ports[i].line >= 0) {
                    sendNotice(i);
                }
            }
        }

        private void sendNotice(int i) {
            Buf f = w.fetch();
            f.a8(255);
            f.a8(n.ports[i].number + 1);
            f.a8(NOTICE);
            f.a16(root);
            f.a16(rootCost);
            f.a16(name());
            f.a8(i);
            f.a8(rootPort < 0 ? 0 : heard[rootPort][5] + 1);
            n.ports[i].enqueue(f);
        }

        /** ROOT, COST and ROLES anew. */
        private void workOut() {
            int best = -1;
            for (int i = 0; i < 4; i++) {
                if (n.ports[i].line >= 0 && heard[i][0] == 1 && heard[i][1] < name()
                        && (best < 0 || compareVia(i, best) < 0)) {
                    best = i;
                }
            }
            rootPort = best;
            root = best < 0 ? name() : heard[best][1];
            rootCost = best < 0 ? 0 : heard[best][2] + n.ports[best].cost;
            for (int i = 0; i < 4; i++) {
                giveRole(i, roleOf(i));
            }
        }

        private int compareVia(int i, int k) {
            int d = heard[i][1] - heard[k][1];
            if (d == 0) {
                d = heard[i][2] + n.ports[i].cost - heard[k][2] - n.ports[k].cost;
            }
            if (d == 0) {
                d = heard[i][3] - heard[k][3];
            }
            return d == 0 ? heard[i][4] - heard[k][4] : d;
        }

        private int roleOf(int i) {
            if (n.ports[i].line < 0) {
                return 0;
            }
            if (i == rootPort) {
                return 1;
            }
            if (heard[i][0] == 0) {
                return 2;
            }
            int d = root - heard[i][1];
            if (d == 0) {
                d = rootCost - heard[i][2];
            }
            if (d == 0) {
                d = name() - heard[i][3];
            }
            if (d == 0) {
                d = i - heard[i][4];
            }
            return d < 0 ? 2 : BLOCKED;
        }

        private void giveRole(int i, int now) {
            int was = role[i];
            role[i] = now;
            boolean wasOut = was == 0 || was == BLOCKED;
            if (now == 1 || now == 2) {
                if (wasOut) {
                    since[i] = w.time;
                }
            } else {
                for (int r = learned.count - 1; r >= 0; r--) {
                    if (learned.get(r, 1) == i) {
                        learned.remove(r);
                    }
                }
            }
        }
    }

    /** A NODE: what every HOST and ROUTER does with PACKETS. */
    private static final class Node {
        static final int PARTS = 14;
        static final int NAME = 10;
        static final int ERRORS = 11;
        static final int ECHOS = 12;

        final World w;
        final int num;
        int kind;
        boolean up;
        boolean stale;
        final Port[] ports = new Port[4];
        final int[] counts = new int[13];
        Buf inside;
        final Table joins = new Table(8, 4);
        final Buf[] joinBytes = new Buf[4];
        final Table paths = new Table(3, 4);
        final Table echoed = new Table(5, 8);
        final Table groups = new Table(1, 4);
        final Table members = new Table(3, 12);
        Bridge bridge;
        Guard guard;
        Ways ways;
        Link link;
        Outer outer;
        Names names;

        Node(World w, int num) {
            this.w = w;
            this.num = num;
        }

        /** As at first, of a kind. */
        void become(int ofKind) {
            kind = ofKind;
            up = true;
            stale = true;
            for (int i = 0; i < counts.length; i++) {
                counts[i] = 0;
            }
            for (int i = 0; i < 4 && ports[i] == null; i++) {
                ports[i] = new Port(w, this, 4 * num + i);
            }
            if (bridge == null && kind == BRIDGE) {
                bridge = new Bridge(w, this);
            }
            if (guard == null && kind != BRIDGE) {
                guard = new Guard(w, this);
                ways = new Ways(w, this);
                link = new Link(w, this);
                outer = new Outer(w, this);
                names = new Names(w, this);
            }
            empty();
        }

        /** All that it has is gone, also what was set. */
        void empty() {
            for (int i = 0; i < 4; i++) {
                ports[i].reset();
            }
            echoed.count = 0;
            groups.count = 0;
            if (bridge != null) {
                bridge.rank = 128;
            }
            if (guard != null) {
                guard.reset();
                ways.reset();
                link.on = false;
                outer.reset();
                names.reset();
            }
            clear();
        }

        /** All that goes when it goes down. */
        void clear() {
            counts[ERRORS] = 6;
            stale = true;
            members.count = 0;
            paths.count = 0;
            joins.count = 0;
            for (int i = 0; i < 9 && inside != null; i++) {
                Buf b = inside;
                inside = b.next;
                w.release(b);
            }
            for (int i = 0; i < 4; i++) {
                ports[i].clear();
                if (ports[i].borrow[Port.ON] == 1) {
                    ports[i].loseLease();
                    ports[i].borrow[Port.NUMBER] = 0;
                    ports[i].borrow[Port.RENEWED] = LONG_AGO;
                }
            }
            if (bridge != null) {
                bridge.clear();
            }
            if (guard != null) {
                guard.clear();
                ways.clear();
                link.clear();
                outer.clear();
                names.clear();
            }
        }

        void setUp(boolean on) {
            if (up && !on) {
                for (int i = 0; i < w.socketCount; i++) {
                    if (w.sockets[i].n == this) {
                        w.sockets[i].nodeFell();
                    }
                }
                clear();
            }
            up = on;
        }

        /** WAYS anew, behind whatever changed them. */
        void freshen() {
            stale = false;
            if (kind != BRIDGE) {
                ways.rebuild();
                link.rebuild();
                ways.addDistance();
                outer.rebuild();
            }
        }

        boolean owns(int a) {
            for (int i = 0; i < 4; i++) {
                if (ports[i].bits > 0 && ports[i].address == a) {
                    return true;
                }
            }
            return false;
        }

        /** The ADDRESS of the least PORT with one, or 0. */
        int leastAddress() {
            for (int i = 0; i < 4; i++) {
                if (ports[i].bits > 0) {
                    return ports[i].address;
                }
            }
            return 0;
        }

        /** The FROM that a PACKET sent to an ADDRESS has. */
        int fromFor(int to) {
            if (owns(to)) {
                return to;
            }
            if (ways.find(0, to, 4) && ways.port >= 0) {
                return ports[ways.port & 3].address;
            }
            return leastAddress();
        }

        int pathSize(int to) {
            for (int r = paths.count - 1; r >= 0; r--) {
                if (w.time >= paths.get(r, 2)) {
                    paths.remove(r);
                }
            }
            int r = paths.find(0, to);
            return r < 0 ? 1000 : paths.get(r, 1);
        }

        /** CLOCK, in parts; when one of them sent something, or changed WAYS, the rest is a new job. */
        void clock(Buf j) {
            if (kind == BRIDGE) {
                bridge.clock();
                return;
            }
            int part = j.x;
            int sub = j.y;
            for (int i = 0; i < 1000 && part < PARTS; i++) {
                switch (part) {
                    case 0: sub = insideClock(); break;
                    case 1: sub = waitsClock(sub); break;
                    case 2: sub = joinsClock(); break;
                    case 3: counts[ERRORS] = Math.min(6, counts[ERRORS] + 1); sub = -1; break;
                    case 4: sub = ways.clock(); break;
                    case 5: sub = link.helloClock(); break;
                    case 6: sub = link.ownClock(sub); break;
                    case 7: sub = link.owedClock(sub); break;
                    case 8: sub = outer.peerClock(sub); break;
                    case 9: sub = outer.tellClock(sub); break;
                    case 10: sub = socketsClock(sub); break;
                    case 11: sub = ports[sub & 3].leaseClock(); break;
                    case 12: sub = names.clock(sub); break;
                    default: sub = groupsClock(); break;
                }
                if (sub < 0) {
                    part++;
                    sub = 0;
                }
                if (w.cursor != null || stale) {
                    break;
                }
            }
            if (part < PARTS) {
                Buf k = w.make(World.CLOCK, num);
                k.x = part;
                k.y = sub;
            }
        }

        private int insideClock() {
            Buf b = inside;
            inside = null;
            for (int i = 0; i < 9 && b != null; i++) {
                Buf after = b.next;
                b.next = null;
                b.job = World.COME;
                b.node = num;
                b.port = -1;
                w.post(b);
                b = after;
            }
            return -1;
        }

        private int waitsClock(int sub) {
            int p = sub / 8;
            int k = sub % 8;
            if (p > 3) {
                return -1;
            }
            if (k >= ports[p].waits.count) {
                return 8 * (p + 1);
            }
            return ports[p].waitClock(k) ? sub : sub + 1;
        }

        private int joinsClock() {
            for (int i = 0; i < 4 && joins.count > 0 && w.time - joins.get(0, 4) >= 20; i++) {
                Buf q = joinBytes[0];
                if (joins.get(0, 6) > 0 && q != null) {
                    q.len = q.b[2];
                    tell(q, 11, 1, 0);
                }
                dropJoin(0);
            }
            return -1;
        }

        private int socketsClock(int sub) {
            for (int s = sub; s < w.socketCount; s++) {
                if (w.sockets[s].n == this && w.sockets[s].due()) {
                    w.sockets[s].clock();
                    return s + 1;
                }
            }
            return -1;
        }

        private int groupsClock() {
            if (w.time % 6 == 0) {
                for (int g = 0; g < groups.count; g++) {
                    for (int i = 0; i < 4; i++) {
                        if (ports[i].live()) {
                            Buf p = direct(ports[i], 2, groups.get(g, 0));
                            p.p8(0, 64);
                            p.a8(1);
                            p.a32(groups.get(g, 0));
                        }
                    }
                }
            }
            for (int r = members.count - 1; r >= 0; r--) {
                if (w.time - members.get(r, 2) > 14) {
                    members.remove(r);
                }
            }
            return -1;
        }

        /** A job that will SEND a PACKET of one's own; its DATA is put behind it by the caller. */
        Buf own(int protocol, int to) {
            Buf p = w.make(World.OWN, num);
            p.len = HEAD;
            for (int i = 0; i < HEAD; i++) {
                p.b[i] = 0;
            }
            p.p8(0, 64);
            p.p8(1, protocol);
            p.p8(3, 32);
            p.p32(14, to);
            return p;
        }

        /** The same, with a FROM that is said. */
        Buf ownFrom(int protocol, int to, int from) {
            Buf p = own(protocol, to);
            p.p32(10, from);
            p.x = 1;
            return p;
        }

        /** A job that will PASS a PACKET of one's own on a PORT, of CLASS 3, HOPS 1. */
        Buf direct(Port port, int protocol, int to) {
            Buf p = w.make(World.PASS, num);
            p.len = HEAD;
            for (int i = 0; i < HEAD; i++) {
                p.b[i] = 0;
            }
            p.port = port.index();
            p.p8(0, 67);
            p.p8(1, protocol);
            p.p8(3, 1);
            p.p32(10, port.address);
            p.p32(14, to);
            return p;
        }

        private void seal(Buf p) {
            p.p8(2, p.len);
            p.p16(4, counts[NAME]);
            counts[NAME] = counts[NAME] + 1 & 65535;
            p.p16(8, p.sum(0, HEAD, 8));
        }

        /** SENDS a PACKET of one's own. */
        void sendOwn(Buf p) {
            int to = p.u32(14);
            boolean said = p.x == 1;
            boolean mine = owns(to);
            boolean way = !mine && ways.find(said ? p.u32(10) : 0, to, 4);
            if (!said) {
                int from = way && ways.port >= 0 ? ports[ways.port & 3].address : leastAddress();
                p.p32(10, mine ? to : from);
            }
            seal(p);
            if (mine) {
                putInside(p);
            } else if (!way) {
                tell(p, 3, 0, 0);
            } else {
                guard.noteOwn(p);
                goBy(p, true);
            }
        }

        private void putInside(Buf p) {
            Buf last = null;
            int many = 0;
            for (Buf g = inside; g != null && many < 8; g = g.next) {
                last = g;
                many++;
            }
            if (many >= 8) {
                return;
            }
            Buf b = w.fetch();
            b.append(p, 0, p.len);
            if (last == null) {
                inside = b;
            } else {
                last.next = b;
            }
        }

        /** A PACKET goes by THE WAY that was found last. */
        private void goBy(Buf p, boolean mine) {
            int to = p.u32(14);
            Buf q = again(p, World.PASS);
            q.port = Math.max(0, ways.port);
            q.y = ways.port < 0 ? 2 : 1;
            q.via = isMany(to) && ways.port >= 0 ? to : ways.next;
            q.size = mine ? pathSize(to) : 1000;
        }

        /**
         * A job that PASSES: on a PORT one's own (y 0), or one that is ready (y 1); into a TUNNEL (y 2);
         * x: to a LINK ADDRESS.
         */
        void passNow(Buf p) {
            Port q = p.y == 2 ? null : ports[p.port & 3];
            if (q != null && q.line < 0) {
                return;
            }
            if (p.y == 0) {
                seal(p);
                p.via = p.u32(14);
                p.size = 1000;
            }
            int size = q == null ? p.size : Math.min(p.size, w.lines.get(q.line, World.SIZE));
            if (q != null && p.x != 0) {
                q.frame(p, p.x);
            } else if (q != null && p.len <= size) {
                q.pass(p, p.via);
            } else if (p.len <= size) {
                guard.wrap(p, p.via);
            } else if ((p.u8(6) & 64) != 0) {
                tell(p, 3, 4, size);
            } else {
                cut(p, q, p.via, size);
            }
        }

        /** PASSES a PACKET in pieces on a PORT to an ADDRESS (null: into a TUNNEL). */
        private void cut(Buf p, Port q, int next, int size) {
            int most = (size - HEAD) / 8 * 8;
            if (most < 8) {
                return;
            }
            int flags = p.u8(6);
            Buf piece = w.fetch();
            for (int at = HEAD; at < p.len; at += most) {
                int n = Math.min(most, p.len - at);
                piece.len = 0;
                piece.append(p, 0, HEAD);
                piece.append(p, at, n);
                boolean more = at + n < p.len || (flags & 128) != 0;
                int place = (flags & 31) + (at - HEAD) / 8 & 31;
                piece.p8(2, HEAD + n);
                piece.p8(6, flags & 96 | place | (more ? 128 : 0));
                piece.p16(8, piece.sum(0, HEAD, 8));
                if (q == null) {
                    guard.wrap(piece, next);
                } else {
                    q.pass(piece, next);
                }
            }
            w.release(piece);
        }

        /** UNREACHABLE (3) or OVER (11) of a PACKET. */
        void tell(Buf p, int type, int code, int size) {
            int from = p.u32(10);
            boolean oneself = p.u8(1) == 1 && p.len > HEAD && (p.u8(HEAD) == 3 || p.u8(HEAD) == 11);
            if (from == 0 || isMany(from) || isMany(p.u32(14)) || (p.u8(6) & 31) != 0 || oneself
                    || counts[ERRORS] <= 0) {
                return;
            }
            counts[ERRORS]--;
            Buf c = own(1, from);
            c.a8(type);
            c.a8(code);
            c.a16(0);
            c.a16(size);
            c.a16(0);
            c.append(p, 0, 26);
            c.p16(HEAD + 2, c.sum(HEAD, c.len, HEAD + 2));
        }

        /** A PACKET comes in (port -1: from no PORT). */
        void comeIn(Buf p) {
            int length = p.u8(2);
            if (p.len < HEAD || p.u8(0) / 4 != 16 || length < HEAD || length > p.len
                    || p.u16(8) != p.sum(0, HEAD, 8)) {
                counts[4]++;
                return;
            }
            p.len = length;
            if (p.port >= 0) {
                int verdict = guard.filter(p);
                if (verdict != 0) {
                    counts[5]++;
                    if (verdict == REFUSE) {
                        tell(p, 3, 13, 0);
                    }
                    return;
                }
                guard.rewriteBack(p);
            }
            int to = p.u32(14);
            if (isGroup(to)) {
                groupIn(p, to);
            } else if (to == ALL || owns(to)) {
                again(p, World.TAKE);
            } else if (kind == ROUTER) {
                if (p.u8(3) <= 1) {
                    tell(p, 11, 0, 0);
                } else {
                    p.p8(3, p.u8(3) - 1);
                    p.p16(8, p.sum(0, HEAD, 8));
                    again(p, World.ON);
                }
            }
        }

        private Buf again(Buf p, int job) {
            Buf q = w.make(job, num);
            q.append(p, 0, p.len);
            q.port = p.port;
            return q;
        }

        /** A ROUTER passes a PACKET on. */
        void passOn(Buf p) {
            if (!ways.find(p.u32(10), p.u32(14), 4)) {
                tell(p, 3, 0, 0);
            } else if (guard.rewrite(p, ways.port)) {
                counts[8]++;
                goBy(p, false);
            }
        }

        private void groupIn(Buf p, int to) {
            if (p.u8(1) == 2) {
                int g = p.u32(HEAD + 1);
                if (kind == ROUTER && p.port >= 0 && p.len >= HEAD + 5 && p.u8(HEAD) == 1 && isGroup(g)) {
                    addMember(p.port, g);
                }
                return;
            }
            if (kind == ROUTER && p.port >= 0 && p.u8(3) > 1 && ways.find(0, p.u32(10), 4) && ways.port == p.port) {
                for (int i = 0; i < 4; i++) {
                    if (i != p.port && ports[i].live()
                            && (members.findPair(0, i, to) >= 0 || link.neighbours.find(0, i) >= 0)) {
                        Buf q = again(p, World.PASS);
                        q.port = i;
                        q.y = 1;
                        q.via = to;
                        q.size = 1000;
                        q.p8(3, p.u8(3) - 1);
                        q.p16(8, q.sum(0, HEAD, 8));
                    }
                }
            }
            if (groups.find(0, to) >= 0) {
                again(p, World.TAKE);
            }
        }

        private void addMember(int port, int g) {
            int r = members.findPair(0, port, g);
            if (r < 0) {
                r = members.insert(members.count);
            }
            members.fill(r, port, g, w.time, 0, 0, 0);
        }

        /** A PACKET is TAKEN: a piece is JOINED, a whole one handed over by its PROTOCOL. */
        void take(Buf p) {
            if ((p.u8(6) & 128) != 0 || (p.u8(6) & 31) != 0) {
                join(p);
                return;
            }
            counts[9]++;
            switch (p.u8(1)) {
                case 1: again(p, World.CONTROL); break;
                case 6: again(p, World.STREAM); break;
                case 17: again(p, World.DATAGRAM); break;
                case 9: again(p, World.DISTANCE); break;
                case 89: again(p, World.LINKED); break;
                case 79: again(p, World.OUTER); break;
                case 67: again(p, World.LEASE); break;
                case 53: again(p, p.u8(HEAD) == 0 ? World.QUESTION : World.ANSWER); break;
                case 4: again(p, World.TUNNEL); break;
                case 50: again(p, World.TUNNEL); break;
                default: break;
            }
        }

        private void dropJoin(int r) {
            joins.remove(r);
            if (r >= 0 && r < 4) {
                Buf q = joinBytes[r];
                for (int i = r; i < 3; i++) {
                    joinBytes[i] = joinBytes[i + 1];
                }
                joinBytes[3] = q;
            }
        }

        /** The JOINING of a piece (columns: FROM, TO, NAME, PROTOCOL, begun, end, PLACE 0 there, bytes there). */
        private int joiningOf(Buf p) {
            for (int r = 0; r < joins.count; r++) {
                if (joins.get(r, 0) == p.u32(10) && joins.get(r, 1) == p.u32(14)
                        && joins.get(r, 2) == p.u16(4) && joins.get(r, 3) == p.u8(1)) {
                    return r;
                }
            }
            if (joins.count >= joins.most) {
                dropJoin(0);
            }
            int r = joins.insert(joins.count);
            joins.put(r, 0, p.u32(10));
            joins.put(r, 1, p.u32(14));
            joins.put(r, 2, p.u16(4));
            joins.put(r, 3, p.u8(1));
            joins.put(r, 4, w.time);
            joins.put(r, 5, -1);
            if (joinBytes[r & 3] == null) {
                joinBytes[r & 3] = new Buf(320);
            }
            Buf q = joinBytes[r & 3];
            for (int i = 0; i < q.b.length; i++) {
                q.b[i] = 0;
            }
            return r;
        }

        /** Bytes of a JOINING stand behind its HEAD; at 160 and on whether each is there. */
        private void join(Buf p) {
            int n = p.len - HEAD;
            boolean more = (p.u8(6) & 128) != 0;
            if (n < 1 || more && n % 8 != 0) {
                return;
            }
            int r = joiningOf(p);
            Buf q = joinBytes[r & 3];
            int at = (p.u8(6) & 31) * 8;
            int end = joins.get(r, 5);
            boolean bad = at + n > 130 || end >= 0 && at + n > end;
            for (int i = at; i < 130 && !bad; i++) {
                bad = q.b[160 + i] != 0 && (i < at + n || !more);
            }
            if (bad) {
                counts[6]++;
                dropJoin(r);
                return;
            }
            for (int i = 0; i < n; i++) {
                q.b[160 + at + i] = 1;
                q.b[HEAD + at + i] = p.u8(HEAD + i);
            }
            if (!more) {
                joins.put(r, 5, at + n);
            }
            joins.put(r, 7, joins.get(r, 7) + n);
            if (at == 0) {
                joins.put(r, 6, 1);
                System.arraycopy(p.b, 0, q.b, 0, HEAD);
            }
            if (joins.get(r, 7) == joins.get(r, 5)) {
                q.len = HEAD + joins.get(r, 5);
                Buf t = again(q, World.TAKE);
                t.port = p.port;
                t.p8(2, t.len);
                t.p8(6, 0);
                dropJoin(r);
            }
        }

        /** A CONTROL that was TAKEN. */
        void control(Buf p) {
            int from = p.u32(10);
            int to = p.u32(14);
            if (p.len < HEAD + 8 || p.u16(HEAD + 2) != p.sum(HEAD, p.len, HEAD + 2)) {
                counts[4]++;
                return;
            }
            int type = p.u8(HEAD);
            if (type == 8) {
                Buf a = owns(to) ? ownFrom(1, from, to) : own(1, from);
                a.a32(0);
                a.append(p, HEAD + 4, p.len);
                a.p16(HEAD + 2, a.sum(HEAD, a.len, HEAD + 2));
            } else if (type == 0) {
                toldEcho(p.u16(HEAD + 4), 0, p.u8(HEAD + 1), from);
            } else if ((type == 3 || type == 11) && p.len >= HEAD + 8 + HEAD && owns(p.u32(HEAD + 18))) {
                quoted(p, type, p.u8(HEAD + 1));
            }
        }

        private void toldEcho(int number, int type, int code, int from) {
            if (echoed.count >= echoed.most) {
                echoed.remove(0);
            }
            int r = echoed.insert(echoed.count);
            echoed.fill(r, number, type, code, from, w.time, 0);
        }

        /** A CONTROL 3 or 11 that tells of a PACKET of this NODE, which is quoted from byte 26 on. */
        private void quoted(Buf p, int type, int code) {
            int q = HEAD + 8;
            int far = p.u32(q + 14);
            if (type == 3 && code == 4) {
                addPath(far, Math.max(60, p.u16(HEAD + 4)));
            }
            int protocol = p.u8(q + 1);
            if (protocol == 1 && p.len >= q + 26 && p.u8(q + HEAD) == 8) {
                toldEcho(p.u16(q + 22), type, code, p.u32(10));
            } else if (protocol == 17 && p.len >= q + 22 && code != 4) {
                for (int i = 0; i < w.socketCount; i++) {
                    Socket s = w.sockets[i];
                    if (s.n == this && s.kind == 0 && s.state != 0 && s.port == p.u16(q + 18)) {
                        s.failure = code + (type == 3 ? 1 : 65);
                    }
                }
            } else if (protocol == 6 && p.len >= q + 22 && code != 4 && type == 3) {
                for (int i = 0; i < w.socketCount; i++) {
                    Socket s = w.sockets[i];
                    if (s.n == this && s.kind == 1 && s.state == 2 && s.port == p.u16(q + 18)
                            && s.far == far && s.farPort == p.u16(q + 20)) {
                        s.fail(1);
                    }
                }
            }
        }

        private void addPath(int far, int size) {
            pathSize(0);
            int r = paths.find(0, far);
            if (r < 0) {
                if (paths.count >= paths.most) {
                    paths.remove(0);
                }
                r = paths.insert(paths.count);
            }
            paths.fill(r, far, size, w.time + 100, 0, 0, 0);
        }

        /** A DATAGRAM that was TAKEN. */
        void datagramIn(Buf p) {
            int n = p.len - HEAD;
            if (n < 8 || p.u16(HEAD + 4) != n || p.u16(HEAD + 6) != p.sum(HEAD, p.len, HEAD + 6)) {
                counts[4]++;
                return;
            }
            for (int i = 0; i < w.socketCount; i++) {
                Socket s = w.sockets[i];
                if (s.n == this && s.kind == 0 && s.state != 0 && s.port == p.u16(HEAD + 2)) {
                    s.keep(p);
                    return;
                }
            }
            tell(p, 3, 3, 0);
        }

        /** A SEGMENT that was TAKEN: for which SOCKET it is. */
        void streamIn(Buf p) {
            if (p.len < HEAD + 18 || p.u16(HEAD + 16) != p.sum(HEAD, p.len, HEAD + 16)) {
                counts[4]++;
                return;
            }
            int best = -1;
            int listens = -1;
            for (int i = 0; i < w.socketCount; i++) {
                Socket s = w.sockets[i];
                if (s.n != this || s.kind == 0 || s.port != p.u16(HEAD + 2)) {
                    continue;
                }
                if (s.state == 1) {
                    listens = i;
                } else if (best < 0 && s.state >= 2 && s.far == p.u32(10) && s.farPort == p.u16(HEAD)) {
                    best = i;
                }
            }
            if (best < 0 && listens < 0) {
                refuse(p);
            } else {
                again(p, World.SEGMENT).x = best >= 0 ? best : listens;
            }
        }

        /** The RST that goes back for a SEGMENT that is for none. */
        void refuse(Buf p) {
            int flags = p.u8(HEAD + 12);
            if ((flags & 4) != 0) {
                return;
            }
            int to = p.u32(14);
            Buf a = owns(to) ? ownFrom(6, p.u32(10), to) : own(6, p.u32(10));
            a.p8(6, 64);
            a.a16(p.u16(HEAD + 2));
            a.a16(p.u16(HEAD));
            if ((flags & 16) != 0) {
                a.a32(p.u32(HEAD + 8));
                a.a32(0);
                a.a8(4);
            } else {
                a.a32(0);
                a.a32(p.u32(HEAD + 4) + p.len - HEAD - 18 + (flags >> 1 & 1) + (flags & 1));
                a.a8(20);
            }
            a.a8(0);
            a.a16(0);
            a.a16(0);
            a.p16(HEAD + 16, a.sum(HEAD, a.len, HEAD + 16));
        }

        /** SENDS an ECHO: its first NUMBER. */
        int sendEcho(int to, int bytes, int hops) {
            int number = counts[ECHOS];
            counts[ECHOS] = number + 1 & 65535;
            Buf p = own(1, to);
            p.p8(3, hops);
            p.a8(8);
            p.a8(0);
            p.a16(0);
            p.a16(number);
            p.a16(bytes);
            for (int i = 0; i < bytes; i++) {
                p.a8(i);
            }
            p.p16(HEAD + 2, p.sum(HEAD, p.len, HEAD + 2));
            return number;
        }
    }

    /** FILTERS with FLOWS, what is REWRITTEN, and TUNNELS. */
    private static final class Guard {
        static final int FAR = 0;
        static final int KEY = 1;
        static final int SENT = 2;
        static final int GREATEST = 3;
        static final int CAME = 4;

        final World w;
        final Node n;
        final Table rules = new Table(10, 12);
        final Table flows = new Table(6, 12);
        int outside;
        final Table pairs = new Table(5, 8);
        final int[][] tunnels = new int[2][5];
        int portFrom;
        int portTo;

        Guard(World w, Node n) {
            this.w = w;
            this.n = n;
        }

        void reset() {
            rules.count = 0;
            outside = -1;
            setTunnel(0, 0, 0);
            setTunnel(1, 0, 0);
        }

        void clear() {
            flows.count = 0;
            pairs.count = 0;
            for (int t = 0; t < 2; t++) {
                setTunnel(t, tunnels[t][FAR], tunnels[t][KEY]);
            }
        }

        void setTunnel(int t, int far, int key) {
            if (t >= 0 && t < 2) {
                tunnels[t][FAR] = far;
                tunnels[t][KEY] = key;
                tunnels[t][SENT] = 0;
                tunnels[t][GREATEST] = 0;
                tunnels[t][CAME] = 0;
            }
        }

        boolean hasTunnel(int t) {
            return t >= 0 && t < 2 && tunnels[t][FAR] != 0;
        }

        /** What the RULES say of a PACKET that came in from a PORT: 0 PASS, DROP or REFUSE. */
        int filter(Buf p) {
            if (rules.count == 0) {
                return 0;
            }
            int flow = flowOf(p);
            boolean known = flow >= 0 && w.time - flows.get(flow, 5) <= 40;
            for (int r = 0; r < rules.count; r++) {
                if (holds(r, p, known)) {
                    if (rules.get(r, 0) != 0) {
                        return rules.get(r, 0);
                    }
                    break;
                }
            }
            touchFlow(p, flow);
            return 0;
        }

        private boolean holds(int r, Buf p, boolean known) {
            int protocol = rules.get(r, 1);
            if (protocol >= 0 && protocol != p.u8(1)) {
                return false;
            }
            if (rules.get(r, 3) >= 0 && !inNet(p.u32(10), rules.get(r, 2), rules.get(r, 3))) {
                return false;
            }
            if (rules.get(r, 5) >= 0 && !inNet(p.u32(14), rules.get(r, 4), rules.get(r, 5))) {
                return false;
            }
            if (rules.get(r, 6) >= 0) {
                boolean has = (p.u8(1) == 6 || p.u8(1) == 17) && (p.u8(6) & 31) == 0 && p.len >= HEAD + 4;
                int port = p.u16(HEAD + 2);
                if (!has || port < rules.get(r, 6) || port > rules.get(r, 7)) {
                    return false;
                }
            }
            if (rules.get(r, 8) >= 0 && rules.get(r, 8) != p.port) {
                return false;
            }
            return rules.get(r, 9) == 0 || known;
        }

        /** The FLOW with the ends of a PACKET, either way round: -1 none yet, -2 it is of no FLOW. */
        private int flowOf(Buf p) {
            if ((p.u8(6) & 31) != 0) {
                return -2;
            }
            portFrom = 0;
            portTo = 0;
            int protocol = p.u8(1);
            if ((protocol == 6 || protocol == 17) && p.len >= HEAD + 4) {
                portFrom = p.u16(HEAD);
                portTo = p.u16(HEAD + 2);
            } else if (protocol == 1 && p.len >= HEAD + 8 && (p.u8(HEAD) == 8 || p.u8(HEAD) == 0)) {
                portFrom = p.u16(HEAD + 4);
                portTo = portFrom;
            }
            for (int r = 0; r < flows.count; r++) {
                boolean there = flows.get(r, 1) == p.u32(10) && flows.get(r, 2) == portFrom
                        && flows.get(r, 3) == p.u32(14) && flows.get(r, 4) == portTo;
                boolean back = flows.get(r, 1) == p.u32(14) && flows.get(r, 2) == portTo
                        && flows.get(r, 3) == p.u32(10) && flows.get(r, 4) == portFrom;
                if (flows.get(r, 0) == protocol && (there || back)) {
                    return r;
                }
            }
            return -1;
        }

        private void touchFlow(Buf p, int flow) {
            if (flow == -2) {
                return;
            }
            int r = flow;
            if (r < 0) {
                if (flows.count >= flows.most) {
                    flows.remove(flows.least(5));
                }
                r = flows.insert(flows.count);
                flows.put(r, 0, p.u8(1));
                flows.put(r, 1, p.u32(10));
                flows.put(r, 2, portFrom);
                flows.put(r, 3, p.u32(14));
                flows.put(r, 4, portTo);
            }
            flows.put(r, 5, w.time);
        }

        /** A PACKET of one's own that is SENT by THE WAY. */
        void noteOwn(Buf p) {
            if (rules.count > 0) {
                touchFlow(p, flowOf(p));
            }
        }

        /** Whether a PACKET is one that can be REWRITTEN; type: of a CONTROL. */
        private boolean rewritable(Buf p, int type) {
            if ((p.u8(6) & 128) != 0 || (p.u8(6) & 31) != 0) {
                return false;
            }
            int protocol = p.u8(1);
            if (protocol == 1) {
                return p.len >= HEAD + 8 && p.u8(HEAD) == type;
            }
            return (protocol == 6 || protocol == 17) && p.len >= HEAD + 4;
        }

        /** Where THE SUM of its DATA stands in a PACKET with a right one; -1 otherwise. */
        private int rightSum(Buf p) {
            int protocol = p.u8(1);
            int at = protocol == 1 ? HEAD + 2 : protocol == 17 ? HEAD + 6 : HEAD + 16;
            return p.len >= at + 2 && p.u16(at) == p.sum(HEAD, p.len, at) ? at : -1;
        }

        private void sumAnew(Buf p, int at) {
            if (at >= 0) {
                p.p16(at, p.sum(HEAD, p.len, at));
            }
            p.p16(8, p.sum(0, HEAD, 8));
        }

        void dropOldPairs() {
            for (int r = pairs.count - 1; r >= 0; r--) {
                if (w.time - pairs.get(r, 4) > 50) {
                    pairs.remove(r);
                }
            }
        }

        private Port outsidePort() {
            return outside >= 0 && outside < 4 && n.ports[outside].bits > 0 ? n.ports[outside] : null;
        }

        /** REWRITES a PACKET that goes by a PORT, if it must be: false if it is dropped. */
        boolean rewrite(Buf p, int port) {
            Port q = outsidePort();
            if (q == null || port != outside || !rewritable(p, 8) || inNet(p.u32(10), q.address, q.bits)) {
                return true;
            }
            dropOldPairs();
            int protocol = p.u8(1);
            int where = protocol == 1 ? HEAD + 4 : HEAD;
            int r = pairOf(protocol, p.u32(10), p.u16(where));
            if (r < 0) {
                return false;
            }
            int at = rightSum(p);
            pairs.put(r, 4, w.time);
            p.p32(10, q.address);
            p.p16(where, pairs.get(r, 3));
            sumAnew(p, at);
            return true;
        }

        private int pairOf(int protocol, int inner, int port) {
            int used = 0;
            for (int r = 0; r < pairs.count; r++) {
                if (pairs.get(r, 0) == protocol) {
                    if (pairs.get(r, 1) == inner && pairs.get(r, 2) == port) {
                        return r;
                    }
                    used |= 1 << (pairs.get(r, 3) - 40000 & 7);
                }
            }
            int outer = 0;
            while (outer < 8 && (used >> outer & 1) != 0) {
                outer++;
            }
            if (outer >= 8) {
                return -1;
            }
            int r = pairs.insert(pairs.count);
            pairs.put(r, 0, protocol);
            pairs.put(r, 1, inner);
            pairs.put(r, 2, port);
            pairs.put(r, 3, 40000 + outer);
            return r;
        }

        void rewriteBack(Buf p) {
            Port q = outsidePort();
            if (q == null || p.port != outside || p.u32(14) != q.address || !rewritable(p, 0)) {
                return;
            }
            dropOldPairs();
            int protocol = p.u8(1);
            int where = protocol == 1 ? HEAD + 4 : HEAD + 2;
            for (int r = 0; r < pairs.count; r++) {
                if (pairs.get(r, 0) == protocol && pairs.get(r, 3) == p.u16(where)) {
                    int at = rightSum(p);
                    pairs.put(r, 4, w.time);
                    p.p32(14, pairs.get(r, 1));
                    p.p16(where, pairs.get(r, 2));
                    sumAnew(p, at);
                    return;
                }
            }
        }

        /** A PACKET goes into a TUNNEL. */
        void wrap(Buf p, int t) {
            if (!hasTunnel(t)) {
                return;
            }
            int[] u = tunnels[t];
            int extra = u[KEY] == 0 ? HEAD : HEAD + 4;
            if (p.len + extra > 148) {
                n.counts[4]++;
                return;
            }
            Buf q = n.own(u[KEY] == 0 ? 4 : 50, u[FAR]);
            if (u[KEY] == 0) {
                q.append(p, 0, p.len);
                return;
            }
            u[SENT] = u[SENT] + 1 & 65535;
            q.a16(u[SENT]);
            q.append(p, 0, p.len);
            int sum = q.sum(HEAD, q.len, -1);
            veil(q, u[KEY], u[SENT], q.len);
            q.a16(sum);
        }

        /** Turns the bytes behind NUMBER, up to end, by the KEY's ROW. */
        private void veil(Buf q, int key, int number, int end) {
            int x = 65536 * key + number;
            for (int i = HEAD + 2; i < end; i++) {
                x = 1664525 * x + 1013904223;
                q.p8(i, q.u8(i) ^ x >>> 24);
            }
        }

        /** A PACKET of PROTOCOL 4 or 50 that was TAKEN. */
        void unwrap(Buf p) {
            boolean plain = p.u8(1) == 4;
            for (int t = 0; t < 2 && n.kind == ROUTER; t++) {
                int[] u = tunnels[t];
                if (u[FAR] == 0 || u[FAR] != p.u32(10) || plain != (u[KEY] == 0)) {
                    continue;
                }
                if (plain) {
                    w.make(World.COME, n.num).append(p, HEAD, p.len);
                    return;
                }
                int end = p.len - 2;
                int number = p.u16(HEAD);
                veil(p, u[KEY], number, end);
                if (end >= HEAD + 2 && p.u16(end) == p.sum(HEAD, end, -1) && cameNew(u, number)) {
                    w.make(World.COME, n.num).append(p, HEAD + 2, end - HEAD - 2);
                } else {
                    n.counts[4]++;
                }
                return;
            }
        }

        private boolean cameNew(int[] u, int number) {
            int d = number - u[GREATEST];
            if (d > 0) {
                u[CAME] = d > 15 ? 1 : (u[CAME] << d | 1) & 65535;
                u[GREATEST] = number;
                return true;
            }
            if (d <= -16 || (u[CAME] >> -d & 1) != 0) {
                return false;
            }
            u[CAME] |= 1 << -d;
            return true;
        }
    }

    /** WAYS of a HOST or ROUTER, with FIXED rows and DISTANCE. */
    private static final class Ways {
        final World w;
        final Node n;
        final Table fixed = new Table(5, 8);
        final Table all = new Table(6, 4000);
        final Table rows = new Table(6, 24);
        boolean on;
        boolean changed;
        final int[] nexts = new int[5];
        final int[] outs = new int[5];
        int next;
        int port;
        int kind;
        int cost;

        Ways(World w, Node n) {
            this.w = w;
            this.n = n;
        }

        void reset() {
            fixed.count = 0;
            on = false;
        }

        void clear() {
            rows.count = 0;
            changed = false;
        }

        void addFixed(int net, int bits, int via, int price, int leased) {
            int r = fixed.insert(fixed.count);
            fixed.fill(r, net, bits, via, price, leased, 0);
        }

        void dropLeased(int leased) {
            int r = fixed.find(4, leased);
            if (r >= 0) {
                fixed.remove(r);
            }
        }

        void dropFixed(int net, int bits, int via) {
            for (int r = fixed.count - 1; r >= 0; r--) {
                if (fixed.get(r, 0) == net && fixed.get(r, 1) == bits && fixed.get(r, 2) == via) {
                    fixed.remove(r);
                }
            }
        }

        void addWay(int net, int bits, int ofKind, int price, int via, int out) {
            int r = all.insert(all.count);
            all.fill(r, net, bits, ofKind, price, via, out);
        }

        /** WAYS of KINDS 0 and 1. */
        void rebuild() {
            all.count = 0;
            for (int i = 0; i < 4; i++) {
                Port p = n.ports[i];
                if (p.live()) {
                    addWay(netOf(p.address, p.bits), p.bits, 0, 0, 0, i);
                }
            }
            int direct = all.count;
            for (int r = 0; r < fixed.count; r++) {
                int via = fixed.get(r, 2);
                int best = -1;
                for (int k = 0; k < direct; k++) {
                    if (inNet(via, all.get(k, 0), all.get(k, 1)) && (best < 0 || all.get(k, 1) > all.get(best, 1))) {
                        best = k;
                    }
                }
                if (via == 0 || via == 1) {
                    if (n.guard.hasTunnel(via)) {
                        addWay(fixed.get(r, 0), fixed.get(r, 1), 1, fixed.get(r, 3), via, -1);
                    }
                } else if (best >= 0) {
                    addWay(fixed.get(r, 0), fixed.get(r, 1), 1, fixed.get(r, 3), via, all.get(best, 5));
                }
            }
        }

        /** WAYS of KIND 3. */
        void addDistance() {
            for (int r = 0; r < rows.count; r++) {
                if (rows.get(r, 2) < 16 && n.ports[rows.get(r, 4) & 3].live()) {
                    addWay(rows.get(r, 0), rows.get(r, 1), 3, rows.get(r, 2), rows.get(r, 3), rows.get(r, 4));
                }
            }
        }

        /** THE WAY of KINDS up to top for FROM and TO: whether there is one; it is in next, port, kind, cost. */
        boolean find(int from, int to, int top) {
            int best = -1;
            for (int r = 0; r < all.count; r++) {
                if (all.get(r, 2) <= top && inNet(to, all.get(r, 0), all.get(r, 1))) {
                    if (best < 0 || better(r, best) < 0) {
                        best = r;
                    }
                }
            }
            if (best < 0) {
                return false;
            }
            int many = 0;
            for (int r = best; r < all.count; r++) {
                if (all.get(r, 2) <= top && inNet(to, all.get(r, 0), all.get(r, 1)) && better(r, best) == 0) {
                    many = addPick(many, all.get(r, 4), all.get(r, 5));
                }
            }
            int s = 0;
            for (int i = 0; i < 32; i += 8) {
                s += (from >>> i & 255) + (to >>> i & 255);
            }
            int pick = many > 0 && many <= 4 ? s % many : 0;
            kind = all.get(best, 2);
            cost = all.get(best, 3);
            next = kind == 0 ? to : nexts[pick];
            port = outs[pick];
            return true;
        }

        private int better(int r, int q) {
            int d = all.get(q, 1) - all.get(r, 1);
            if (d == 0) {
                d = all.get(r, 2) - all.get(q, 2);
            }
            return d == 0 ? Integer.compare(all.get(r, 3), all.get(q, 3)) : d;
        }

        /** Puts a NEXT and PORT where they belong among the picks, once, the first 4: how many there are. */
        private int addPick(int many, int via, int out) {
            int k = many;
            for (int i = many - 1; i >= 0; i--) {
                if (nexts[i] == via && outs[i] == out) {
                    return many;
                }
                if (un(nexts[i]) > un(via) || nexts[i] == via && outs[i] > out) {
                    k = i;
                }
            }
            for (int i = Math.min(many, 3); i > k; i--) {
                nexts[i] = nexts[i - 1];
                outs[i] = outs[i - 1];
            }
            if (k < 4) {
                nexts[k] = via;
                outs[k] = out;
            }
            return Math.min(4, many + 1);
        }

        // DISTANCE

        void turn(boolean isOn) {
            on = isOn;
            clear();
        }

        private int rowOf(int net, int bits) {
            return rows.findPair(0, net, bits);
        }

        int clock() {
            if (!on) {
                return -1;
            }
            for (int r = rows.count - 1; r >= 0; r--) {
                boolean old = w.time - rows.get(r, 5) >= 30 || !n.ports[rows.get(r, 4) & 3].live();
                if (rows.get(r, 2) < 16 && old) {
                    rows.put(r, 2, 16);
                    rows.put(r, 5, Math.min(rows.get(r, 5), w.time - 30));
                    changed = true;
                    n.stale = true;
                }
                if (w.time - rows.get(r, 5) >= 45) {
                    rows.remove(r);
                }
            }
            if (w.time % 10 == 0 || changed) {
                changed = false;
                for (int i = 0; i < 4; i++) {
                    if (n.ports[i].live()) {
                        tellOn(n.ports[i]);
                    }
                }
            }
            return -1;
        }

        private void tellOn(Port q) {
            Buf p = null;
            for (int i = 0; i < 4 + rows.count; i++) {
                boolean direct = i < 4;
                if (direct && !n.ports[i].live()) {
                    continue;
                }
                if (p == null || p.len >= HEAD + 96) {
                    p = n.direct(q, 9, ALL);
                }
                if (direct) {
                    p.a32(netOf(n.ports[i].address, n.ports[i].bits));
                    p.a8(n.ports[i].bits);
                    p.a8(1);
                } else {
                    int r = i - 4;
                    p.a32(rows.get(r, 0));
                    p.a8(rows.get(r, 1));
                    p.a8(rows.get(r, 4) == q.index() ? 16 : rows.get(r, 2));
                }
            }
        }

        /** Whether a PACKET of DISTANCE or LINK counts by where it came. */
        boolean counts(Buf p) {
            if (p.port < 0 || n.kind != ROUTER) {
                return false;
            }
            Port q = n.ports[p.port & 3];
            int from = p.u32(10);
            return q.live() && from != q.address && inNet(from, q.address, q.bits);
        }

        void comeDistance(Buf p) {
            if (!on || !counts(p) || (p.len - HEAD) % 6 != 0) {
                return;
            }
            for (int at = HEAD; at + 6 <= p.len; at += 6) {
                int price = p.u8(at + 5);
                if (price >= 1 && price <= 16 && isNet(p.u32(at), p.u8(at + 4))) {
                    hearNet(p.u32(at), p.u8(at + 4), Math.min(16, price + 1), p.u32(10), p.port);
                }
            }
        }

        private void hearNet(int net, int bits, int m, int via, int in) {
            for (int i = 0; i < 4; i++) {
                Port p = n.ports[i];
                if (p.live() && p.bits == bits && netOf(p.address, bits) == net) {
                    return;
                }
            }
            int r = rowOf(net, bits);
            if (r < 0) {
                if (m < 16) {
                    r = rows.insert(rows.count);
                    setRow(r, net, bits, m, via, in);
                }
                return;
            }
            int was = rows.get(r, 2);
            if (rows.get(r, 3) != via || rows.get(r, 4) != in) {
                if (m < was) {
                    setRow(r, net, bits, m, via, in);
                }
                return;
            }
            if (m != was) {
                rows.put(r, 2, m);
                changed = true;
                n.stale = true;
            }
            if (m < 16) {
                rows.put(r, 5, w.time);
            } else if (was < 16) {
                rows.put(r, 5, w.time - 30);
            }
        }

        private void setRow(int r, int net, int bits, int m, int via, int in) {
            if (r < 0) {
                return;
            }
            rows.fill(r, net, bits, m, via, in, w.time);
            changed = true;
            n.stale = true;
        }
    }

    /** LINK: NEIGHBOURS, BOOKS, and what is FOUND in them. */
    private static final class Link {
        static final int OWED = 5;
        static final int OWED_TIME = 17;

        final World w;
        final Node n;
        boolean on;
        /** PORT, ID, ADDRESS, time, HEARS, then NUMBERS for which THANKS are owed, and when these were sent. */
        final Table neighbours = new Table(29, 16);
        /** By AREA and ID: NUMBER, LINKS, NETS, as bytes, as they are sent. */
        final Buf[] books = new Buf[48];
        /** NET, BITS, AREA, COST, NEXT, PORT. */
        final Table foundWays = new Table(6, 2200);
        /** NET, BITS, AREA, COST of what is FOUND by mark 0. */
        final Table foundPlain = new Table(4, 600);
        final int[] price = new int[144];
        final int[] dist = new int[12];
        final Buf mine = new Buf(128);
        final Table sums = new Table(3, 600);

        Link(World w, Node n) {
            this.w = w;
            this.n = n;
        }

        void clear() {
            neighbours.count = 0;
            for (int i = 0; i < 48; i++) {
                if (books[i] != null) {
                    books[i].len = 0;
                }
            }
            foundWays.count = 0;
            foundPlain.count = 0;
            n.stale = true;
        }

        void turn(boolean isOn) {
            on = isOn;
            clear();
        }

        /** A PORT got another AREA. */
        void areaSet(int port) {
            for (int r = neighbours.count - 1; r >= 0; r--) {
                if (neighbours.get(r, 0) == port) {
                    neighbours.remove(r);
                }
            }
            for (int a = 0; a < 4; a++) {
                boolean has = false;
                for (int i = 0; i < 4; i++) {
                    has = has || n.ports[i].area == a;
                }
                for (int id = 0; id < 12 && !has; id++) {
                    if (books[a * 12 + id] != null) {
                        books[a * 12 + id].len = 0;
                    }
                }
            }
        }

        /** The ROW of an ID in the BOOK of an AREA; null if there is none. */
        Buf rowAt(int area, int id) {
            int i = area * 12 + id;
            return area >= 0 && id >= 0 && id < 12 && i < 48 && books[i] != null && books[i].len > 0 ? books[i] : null;
        }

        private boolean liveIn(int port, int area) {
            Port p = n.ports[port & 3];
            return p.area == area && p.live();
        }

        int helloClock() {
            if (!on) {
                return -1;
            }
            for (int r = neighbours.count - 1; r >= 0; r--) {
                if (w.time - neighbours.get(r, 3) >= 12) {
                    neighbours.remove(r);
                    n.stale = true;
                }
            }
            for (int i = 0; i < 4 && w.time % 4 == 0; i++) {
                if (n.ports[i].live()) {
                    Buf p = start(n.ports[i], ALL, 1);
                    for (int r = 0; r < neighbours.count; r++) {
                        if (neighbours.get(r, 0) == i) {
                            p.a8(neighbours.get(r, 1));
                        }
                    }
                }
            }
            return -1;
        }

        private Buf start(Port q, int to, int type) {
            Buf p = n.direct(q, 89, to);
            p.a8(type);
            p.a8(q.area);
            p.a8(n.num);
            return p;
        }

        /** The own ROW of one AREA at CLOCK. */
        int ownClock(int area) {
            if (!on || area > 3) {
                return -1;
            }
            boolean has = false;
            for (int i = 0; i < 4; i++) {
                has = has || liveIn(i, area);
            }
            if (has) {
                buildOwn(area);
                Buf old = rowAt(area, n.num);
                boolean same = old != null && old.len == mine.len;
                for (int i = 4; i < mine.len && same; i++) {
                    same = old.u8(i) == mine.u8(i);
                }
                if (!same) {
                    putOwn(area, old == null ? 1 : old.u32(0) + 1);
                }
            }
            return area + 1;
        }

        private void putOwn(int area, int number) {
            mine.p32(0, number);
            putRow(area, n.num, mine, 0);
            goOut(area, n.num, -1);
        }

        /** The ROW of an ID goes OUT, but not to the NEIGHBOUR of one row. */
        private void goOut(int area, int id, int but) {
            Buf j = w.make(World.FLOOD, n.num);
            j.x = area;
            j.y = id;
            j.via = but;
        }

        /** The bytes of b from a place on become the ROW of an ID. */
        private void putRow(int area, int id, Buf b, int at) {
            int i = area * 12 + id;
            if (i < 0 || i >= 48) {
                return;
            }
            if (books[i] == null) {
                books[i] = new Buf(128);
            }
            books[i].len = 0;
            books[i].append(b, at, b.len);
            n.stale = true;
        }

        /** OUT: to each NEIGHBOUR that HEARS on PORTS of the AREA, but one. */
        void flood(int area, int id, int but) {
            for (int r = 0; r < neighbours.count; r++) {
                if (r != but && neighbours.get(r, 4) == 1 && liveIn(neighbours.get(r, 0), area)) {
                    sendRow(r, area, id);
                    owe(r, area, id);
                }
            }
        }

        private void sendRow(int r, int area, int id) {
            Buf row = rowAt(area, id);
            if (row != null) {
                Buf p = start(n.ports[neighbours.get(r, 0) & 3], neighbours.get(r, 2), 2);
                p.a8(id);
                p.append(row, 0, row.len);
            }
        }

        private void owe(int r, int area, int id) {
            Buf row = rowAt(area, id);
            neighbours.put(r, OWED + id, row == null ? 0 : row.u32(0));
            neighbours.put(r, OWED_TIME + id, w.time);
        }

        /** What one NEIGHBOUR OWES at CLOCK: which is next. */
        int owedClock(int r) {
            if (!on || r >= neighbours.count) {
                return -1;
            }
            Port q = n.ports[neighbours.get(r, 0) & 3];
            for (int id = 0; id < 12; id++) {
                int number = neighbours.get(r, OWED + id);
                Buf row = rowAt(q.area, id);
                if (number != 0 && (row == null || row.u32(0) != number)) {
                    neighbours.put(r, OWED + id, 0);
                } else if (number != 0 && w.time - neighbours.get(r, OWED_TIME + id) >= 10 && q.live()) {
                    sendRow(r, q.area, id);
                    owe(r, q.area, id);
                }
            }
            return r + 1;
        }

        /** A PACKET of LINK that was TAKEN. */
        void come(Buf p) {
            if (!on || !n.ways.counts(p) || p.len < HEAD + 3) {
                return;
            }
            int id = p.u8(HEAD + 2);
            int type = p.u8(HEAD);
            if (p.u8(HEAD + 1) != n.ports[p.port & 3].area || id > 11 || id == n.num) {
                return;
            }
            int r = neighbours.findPair(0, p.port, id);
            if (type == 1) {
                hello(p, id, r);
            } else if (type == 2 && r >= 0 && neighbours.get(r, 4) == 1 && rightRow(p)) {
                rowIn(p, r);
            } else if (type == 3 && r >= 0 && p.len >= HEAD + 8 && p.u8(HEAD + 3) < 12) {
                thanked(r, p.u8(HEAD + 3), p.u32(HEAD + 4));
            }
        }

        private void thanked(int r, int id, int number) {
            if (neighbours.get(r, OWED + id) == number) {
                neighbours.put(r, OWED + id, 0);
            }
        }

        private void hello(Buf p, int id, int row) {
            int r = row;
            if (r < 0) {
                r = roomFor(p.port, id);
                if (r < 0) {
                    return;
                }
                n.stale = true;
            }
            boolean heard = neighbours.get(r, 4) == 1;
            boolean hears = false;
            for (int i = HEAD + 3; i < p.len; i++) {
                hears = hears || p.u8(i) == n.num;
            }
            if (heard != hears || neighbours.get(r, 2) != p.u32(10)) {
                n.stale = true;
            }
            neighbours.put(r, 2, p.u32(10));
            neighbours.put(r, 3, w.time);
            neighbours.put(r, 4, hears ? 1 : 0);
            int area = n.ports[p.port & 3].area;
            for (int i = 0; i < 12; i++) {
                if (hears && !heard && rowAt(area, i) != null) {
                    sendRow(r, area, i);
                    owe(r, area, i);
                } else if (!hears) {
                    neighbours.put(r, OWED + i, 0);
                }
            }
        }

        /** A row for a new NEIGHBOUR, by PORT and ID: -1 if the PORT has 4. */
        private int roomFor(int port, int id) {
            int many = 0;
            int place = 0;
            for (int r = 0; r < neighbours.count; r++) {
                int q = neighbours.get(r, 0);
                many += q == port ? 1 : 0;
                if (q < port || q == port && neighbours.get(r, 1) < id) {
                    place = r + 1;
                }
            }
            if (many >= 4) {
                return -1;
            }
            int r = neighbours.insert(place);
            neighbours.put(r, 0, port);
            neighbours.put(r, 1, id);
            return r;
        }

        /** Whether a ROW that came is one: its ID, NUMBER, LINKS and NETS. */
        private boolean rightRow(Buf p) {
            int number = p.u32(HEAD + 4);
            int links = p.u8(HEAD + 8);
            int at = HEAD + 9 + 2 * links;
            if (p.len <= at || p.u8(HEAD + 3) > 11 || number < 1 || number > 2000000000 || links > 8) {
                return false;
            }
            int nets = p.u8(at);
            if (nets > 12 || p.len != at + 1 + 8 * nets) {
                return false;
            }
            for (int i = at + 1; i < p.len; i += 8) {
                if (!isNet(p.u32(i), p.u8(i + 4)) || p.u8(i + 7) > 1) {
                    return false;
                }
            }
            return true;
        }

        private void rowIn(Buf p, int r) {
            int id = p.u8(HEAD + 3);
            int number = p.u32(HEAD + 4);
            Port q = n.ports[p.port & 3];
            Buf old = rowAt(q.area, id);
            int had = old == null ? 0 : old.u32(0);
            if (number < had) {
                sendRow(r, q.area, id);
                return;
            }
            Buf t = start(q, neighbours.get(r, 2), 3);
            t.a8(id);
            t.a32(number);
            if (number == had) {
                thanked(r, id, number);
            } else if (id == n.num) {
                buildOwn(q.area);
                putOwn(q.area, number + 1);
            } else {
                putRow(q.area, id, p, HEAD + 4);
                goOut(q.area, id, r);
            }
        }

        /** What the own ROW of an AREA is to say, with 0 for its NUMBER, into mine. */
        private void buildOwn(int area) {
            mine.len = 0;
            mine.a32(0);
            mine.a8(0);
            for (int id = 0; id < 12 && mine.u8(4) < 8; id++) {
                int best = leastPrice(area, id);
                if (best > 0) {
                    mine.a8(id);
                    mine.a8(best);
                    mine.p8(4, mine.u8(4) + 1);
                }
            }
            int at = mine.len;
            mine.a8(0);
            boolean inner = false;
            boolean others = false;
            for (int i = 0; i < 4; i++) {
                Port p = n.ports[i];
                if (p.live()) {
                    inner = inner || p.area == 0;
                    others = others || p.area != 0;
                    if (p.area == area) {
                        addOwnNet(at, netOf(p.address, p.bits), p.bits, p.cost, 0);
                    }
                }
            }
            if (inner && others) {
                gather(area);
                for (int r = 0; r < sums.count; r++) {
                    addOwnNet(at, sums.get(r, 0), sums.get(r, 1), sums.get(r, 2), 1);
                }
            }
        }

        private int leastPrice(int area, int id) {
            int best = 0;
            for (int r = 0; r < neighbours.count; r++) {
                int port = neighbours.get(r, 0);
                if (neighbours.get(r, 1) == id && neighbours.get(r, 4) == 1 && liveIn(port, area)) {
                    int c = n.ports[port & 3].cost;
                    best = best == 0 ? c : Math.min(best, c);
                }
            }
            return best;
        }

        private void addOwnNet(int at, int net, int bits, int c, int mark) {
            for (int i = at + 1; i < mine.len; i += 8) {
                if (mark == 1 && mine.u8(i + 7) == 0 && mine.u32(i) == net && mine.u8(i + 4) == bits) {
                    return;
                }
            }
            if (mine.u8(at) < 12) {
                mine.a32(net);
                mine.a8(bits);
                mine.a16(c);
                mine.a8(mark);
                mine.p8(at, mine.u8(at) + 1);
            }
        }

        /** The NETS that the ROW of an AREA tells of others: into sums. */
        private void gather(int area) {
            sums.count = 0;
            for (int i = 0; i < 4; i++) {
                Port p = n.ports[i];
                if (p.live() && (area == 0) == (p.area != 0)) {
                    addSum(netOf(p.address, p.bits), p.bits, p.cost);
                }
            }
            for (int r = 0; r < foundPlain.count && area == 0; r++) {
                if (foundPlain.get(r, 2) != 0) {
                    addSum(foundPlain.get(r, 0), foundPlain.get(r, 1), foundPlain.get(r, 3));
                }
            }
            for (int r = 0; r < foundWays.count && area != 0; r++) {
                if (foundWays.get(r, 2) == 0) {
                    addSum(foundWays.get(r, 0), foundWays.get(r, 1), foundWays.get(r, 3));
                }
            }
        }

        private void addSum(int net, int bits, int c) {
            int r = sums.placeOf(0, net, bits);
            int least = Math.min(65535, c);
            if (r < sums.count && sums.get(r, 0) == net && sums.get(r, 1) == bits) {
                sums.put(r, 2, Math.min(sums.get(r, 2), least));
                return;
            }
            r = sums.insert(r);
            sums.fill(r, net, bits, least, 0, 0, 0);
        }

        /** What is FOUND anew, and put to all WAYS as those of KIND 2. */
        void rebuild() {
            foundWays.count = 0;
            foundPlain.count = 0;
            for (int area = 0; area < 4 && on; area++) {
                boolean ready = false;
                for (int r = 0; r < neighbours.count; r++) {
                    int port = neighbours.get(r, 0);
                    int id = neighbours.get(r, 1);
                    if (neighbours.get(r, 4) == 1 && liveIn(port, area) && rowAt(area, n.num) != null) {
                        if (!ready) {
                            readPrices(area);
                            ready = true;
                        }
                        if (price[(n.num * 12 + id) % 144] >= 0) {
                            spread(id);
                            findNets(area, port, neighbours.get(r, 2));
                        }
                    }
                }
            }
            for (int r = 0; r < foundWays.count; r++) {
                n.ways.addWay(foundWays.get(r, 0), foundWays.get(r, 1), 2, foundWays.get(r, 3),
                        foundWays.get(r, 4), foundWays.get(r, 5));
            }
        }

        /** The COSTS of all LINKS of a BOOK (of one told twice the lesser); -1 where there is none. */
        private void readPrices(int area) {
            for (int i = 0; i < 144; i++) {
                price[i] = -1;
            }
            for (int a = 0; a < 12; a++) {
                Buf row = rowAt(area, a);
                int links = row == null ? 0 : row.u8(4);
                for (int k = 0; k < links; k++) {
                    int b = row.u8(5 + 2 * k);
                    int c = row.u8(6 + 2 * k);
                    if (b < 12 && (price[a * 12 + b] < 0 || c < price[a * 12 + b])) {
                        price[a * 12 + b] = c;
                    }
                }
            }
            for (int a = 0; a < 12; a++) {
                for (int b = 0; b < a; b++) {
                    if (price[a * 12 + b] < 0 || price[b * 12 + a] < 0) {
                        price[a * 12 + b] = -1;
                        price[b * 12 + a] = -1;
                    }
                }
            }
        }

        /** D from an ID to all; -1 where there is no way. */
        private void spread(int from) {
            for (int i = 0; i < 12; i++) {
                dist[i] = i == from ? 0 : -1;
            }
            boolean more = true;
            for (int round = 0; round < 12 && more; round++) {
                more = false;
                for (int a = 0; a < 12; a++) {
                    for (int b = 0; b < 12 && dist[a] >= 0; b++) {
                        int c = price[a * 12 + b];
                        if (c >= 0 && (dist[b] < 0 || dist[a] + c < dist[b])) {
                            dist[b] = dist[a] + c;
                            more = true;
                        }
                    }
                }
            }
        }

        /** The NETS of all ROWS, as they are FOUND by one NEIGHBOUR. */
        private void findNets(int area, int port, int via) {
            for (int b = 0; b < 12; b++) {
                Buf row = rowAt(area, b);
                if (b == n.num || dist[b] < 0 || row == null) {
                    continue;
                }
                for (int i = 6 + 2 * row.u8(4); i < row.len; i += 8) {
                    int c = n.ports[port & 3].cost + dist[b] + row.u16(i + 5);
                    addFound(row.u32(i), row.u8(i + 4), area, c, via, port);
                    if (row.u8(i + 7) == 0) {
                        addPlain(row.u32(i), row.u8(i + 4), area, c);
                    }
                }
            }
        }

        private void addPlain(int net, int bits, int area, int c) {
            for (int r = 0; r < foundPlain.count; r++) {
                if (foundPlain.get(r, 0) == net && foundPlain.get(r, 1) == bits && foundPlain.get(r, 2) == area) {
                    foundPlain.put(r, 3, Math.min(c, foundPlain.get(r, 3)));
                    return;
                }
            }
            int r = foundPlain.insert(foundPlain.count);
            foundPlain.fill(r, net, bits, area, c, 0, 0);
        }

        /** Keeps the least for a NET and AREA, by NET, BITS, COST, NEXT, PORT. */
        private void addFound(int net, int bits, int area, int c, int via, int port) {
            int place = foundWays.placeOf(0, net, bits);
            for (int r = place; r < foundWays.count && foundWays.get(r, 0) == net && foundWays.get(r, 1) == bits; r++) {
                if (foundWays.get(r, 2) != area) {
                    continue;
                }
                int had = foundWays.get(r, 3);
                if (had < c || had == c && foundWays.get(r, 4) == via && foundWays.get(r, 5) == port) {
                    return;
                }
                if (had > c) {
                    foundWays.remove(r);
                    r--;
                }
            }
            while (place < foundWays.count && foundWays.get(place, 0) == net && foundWays.get(place, 1) == bits) {
                long d = foundWays.get(place, 3) - c;
                d = d == 0 ? un(foundWays.get(place, 4)) - un(via) : d;
                d = d == 0 ? foundWays.get(place, 5) - port : d;
                if (d > 0) {
                    break;
                }
                place++;
            }
            int r = foundWays.insert(place);
            foundWays.fill(r, net, bits, area, c, via, port);
        }
    }

    /** OUTER: PEERS, what was HEARD of them and TOLD them, what is CHOSEN, POLICY. */
    private static final class Outer {
        static final int STATE = 2;
        static final int RIGHT = 3;
        static final int NODE = 4;
        static final int SENT = 5;
        static final int TAKEN = 6;
        static final int UNDER = 7;
        static final int UNDER_TIME = 8;
        static final int NET = 1;
        static final int BITS = 2;
        static final int NEXT = 3;
        static final int ORIGIN = 4;
        static final int MED = 5;
        static final int DEGREE = 6;
        static final int MARK = 7;
        static final int MANY_SYSTEMS = 8;
        static final int SYSTEMS = 9;
        static final int WIDTH = 17;

        final World w;
        final Node n;
        int system;
        final Table peers = new Table(9, 4);
        final Table nets = new Table(2, 6);
        final Table policy = new Table(16, 16);
        /** What is told of NETS: of (or to) which PEER, NET, BITS, NEXT, and so on, as the constants say. */
        final Table heard = new Table(WIDTH, 48);
        final Table told = new Table(WIDTH, 2000);
        final Table under = new Table(WIDTH, 4);
        final Table chosen = new Table(WIDTH, 54);
        final Table work = new Table(WIDTH, 1);
        final boolean[] alive = new boolean[48];
        final int[] price = new int[48];
        int selfTo;

        Outer(World w, Node n) {
            this.w = w;
            this.n = n;
            work.insert(0);
        }

        void reset() {
            system = 0;
            peers.count = 0;
            nets.count = 0;
            policy.count = 0;
        }

        /** All PEERS are IDLE, and their NUMBERS as at first. */
        void clear() {
            for (int r = 0; r < peers.count; r++) {
                peers.put(r, STATE, 0);
                peers.put(r, UNDER, 0);
                peers.put(r, SENT, 0);
                peers.put(r, TAKEN, 0);
            }
            heard.count = 0;
            told.count = 0;
            under.count = 0;
            chosen.count = 0;
            n.stale = true;
        }

        void setSystem(int s) {
            system = s;
            for (int r = 0; r < peers.count; r++) {
                idle(r);
            }
            n.stale = true;
        }

        void setPeer(int who, int s) {
            int r = peers.find(0, who);
            if (r >= 0) {
                idle(r);
                if (s == 0) {
                    peers.remove(r);
                }
            } else if (s != 0) {
                r = peers.insert(peers.count);
            }
            if (s != 0) {
                peers.put(r, 0, who);
                peers.put(r, 1, s);
                peers.put(r, NODE, 0);
            }
        }

        void idle(int r) {
            peers.put(r, STATE, 0);
            forget(r);
        }

        /**
         * What was HEARD of a PEER (with it, which one was the last one taken), what it was TOLD (with it,
         * the NUMBERS), what is under way is gone.
         */
        private void forget(int r) {
            int who = peers.get(r, 0);
            dropOf(heard, who);
            dropOf(told, who);
            dropOf(under, who);
            peers.put(r, UNDER, 0);
            peers.put(r, SENT, 0);
            peers.put(r, TAKEN, 0);
            n.stale = true;
        }

        private void dropOf(Table t, int who) {
            for (int i = t.count - 1; i >= 0; i--) {
                if (t.get(i, 0) == who) {
                    t.remove(i);
                }
            }
        }

        int manyOf(Table t, int who) {
            int many = 0;
            for (int i = 0; i < t.count; i++) {
                many += t.get(i, 0) == who ? 1 : 0;
            }
            return many;
        }

        private int rowOf(Table t, int who, int net, int bits) {
            for (int i = 0; i < t.count; i++) {
                if (t.get(i, 0) == who && t.get(i, NET) == net && t.get(i, BITS) == bits) {
                    return i;
                }
            }
            return -1;
        }

        private Buf message(int r, int type) {
            Buf p = n.own(79, peers.get(r, 0));
            p.p8(0, 67);
            p.a8(type);
            return p;
        }

        private void sendOpen(int r, int which) {
            Buf p = message(r, 1);
            p.a8(which);
            p.a16(system);
            p.a8(n.num);
        }

        /** A PACKET of OUTER that was TAKEN. */
        void come(Buf p) {
            int r = system == 0 || n.kind != ROUTER ? -1 : peers.find(0, p.u32(10));
            int type = p.u8(HEAD);
            int m = p.len - HEAD;
            if (r < 0 || m < 1) {
                return;
            }
            if (type == 1 && m >= 5 && p.u8(HEAD + 1) < 2) {
                peers.put(r, RIGHT, w.time);
                openIn(r, p);
            } else if (type == 2) {
                peers.put(r, RIGHT, w.time);
            } else if (type == 3 && rightTell(p) || type == 4 && m >= 8 && isNet(p.u32(HEAD + 3), p.u8(HEAD + 7))) {
                peers.put(r, RIGHT, w.time);
                toldHere(r, p);
            } else if (type == 5 && m >= 3) {
                peers.put(r, RIGHT, w.time);
                thanked(r, p.u16(HEAD + 1));
            } else if (type == 6) {
                idle(r);
            }
        }

        private void openIn(int r, Buf p) {
            if (p.u16(HEAD + 2) != peers.get(r, 1)) {
                message(r, 6);
                w.make(World.PEER_IDLE, n.num).x = r;
                return;
            }
            boolean first = p.u8(HEAD + 1) == 0;
            if (first || peers.get(r, STATE) > 0) {
                forget(r);
                peers.put(r, STATE, 2);
                peers.put(r, NODE, p.u8(HEAD + 4));
            }
            if (first) {
                sendOpen(r, 1);
            }
        }

        private boolean rightTell(Buf p) {
            int many = p.u8(HEAD + 19);
            return p.len >= HEAD + 20 && many <= 8 && p.len == HEAD + 20 + 2 * many && p.u8(HEAD + 12) <= 2
                    && isNet(p.u32(HEAD + 3), p.u8(HEAD + 7));
        }

        /** TELL or TAKE BACK: THANKS go first, by WAYS as they were. */
        private void toldHere(int r, Buf p) {
            if (peers.get(r, STATE) != 2) {
                return;
            }
            int number = p.u16(HEAD + 1);
            message(r, 5).a16(number);
            if (number != peers.get(r, TAKEN)) {
                peers.put(r, TAKEN, number);
                Buf j = w.make(World.HEARD, n.num);
                j.append(p, 0, p.len);
                j.x = r;
            }
        }

        /** What a PEER (x) told is taken. */
        void hear(Buf p) {
            int r = p.x;
            int who = peers.get(r, 0);
            n.stale = true;
            int h = rowOf(heard, who, p.u32(HEAD + 3), p.u8(HEAD + 7));
            if (p.u8(HEAD) == 4) {
                heard.remove(h);
                return;
            }
            readTell(who, p);
            boolean refused = false;
            for (int i = 0; i < work.get(0, MANY_SYSTEMS); i++) {
                refused = refused || work.get(0, SYSTEMS + i) == system;
            }
            if (refused || !passes(0, r)) {
                heard.remove(h);
                return;
            }
            if (h < 0 && manyOf(heard, who) < 12) {
                h = heard.insert(heard.count);
            }
            heard.copyRow(h, work, 0);
        }

        private void readTell(int who, Buf p) {
            work.put(0, 0, who);
            work.put(0, NET, p.u32(HEAD + 3));
            work.put(0, BITS, p.u8(HEAD + 7));
            work.put(0, NEXT, p.u32(HEAD + 8));
            work.put(0, ORIGIN, p.u8(HEAD + 12));
            work.put(0, MED, p.u16(HEAD + 13));
            work.put(0, DEGREE, p.u16(HEAD + 15));
            work.put(0, MARK, p.u16(HEAD + 17));
            work.put(0, MANY_SYSTEMS, p.u8(HEAD + 19));
            for (int i = 0; i < 8; i++) {
                work.put(0, SYSTEMS + i, p.u16(HEAD + 20 + 2 * i));
            }
        }

        private void thanked(int r, int number) {
            int who = peers.get(r, 0);
            int u = under.find(0, who);
            if (u < 0 || peers.get(r, UNDER) == 0 || peers.get(r, SENT) != number) {
                return;
            }
            int t = rowOf(told, who, under.get(u, NET), under.get(u, BITS));
            if (peers.get(r, UNDER) == 2) {
                told.remove(t);
            } else {
                if (t < 0) {
                    t = told.insert(told.count);
                }
                told.copyRow(t, under, u);
            }
            under.remove(u);
            peers.put(r, UNDER, 0);
        }

        int peerClock(int r) {
            if (system == 0 || r >= peers.count) {
                return -1;
            }
            if (peers.get(r, STATE) < 2) {
                if ((w.time + n.num) % 6 == 0) {
                    sendOpen(r, 0);
                    peers.put(r, STATE, 1);
                }
            } else if (w.time - peers.get(r, RIGHT) >= 25) {
                idle(r);
            } else if (w.time % 8 == 0) {
                message(r, 2);
            }
            return r + 1;
        }

        /** Tells a PEER the first NET that it is to be told otherwise than it was TOLD: which PEER is next. */
        int tellClock(int r) {
            if (system == 0 || r >= peers.count) {
                return -1;
            }
            if (peers.get(r, STATE) != 2) {
                return r + 1;
            }
            if (peers.get(r, UNDER) != 0) {
                if (w.time - peers.get(r, UNDER_TIME) >= 10) {
                    transmit(r);
                }
                return r + 1;
            }
            int who = peers.get(r, 0);
            selfTo = n.fromFor(who);
            int back = firstBack(who);
            boolean found = false;
            for (int c = 0; c < chosen.count && !found; c++) {
                if (back >= 0 && isBefore(told, back, chosen, c)) {
                    break;
                }
                boolean wanted = isWanted(r, c);
                int t = rowOf(told, who, chosen.get(c, NET), chosen.get(c, BITS));
                if (wanted && !sameAsWork(t)) {
                    startUnder(r, 1, work, 0);
                    found = true;
                } else if (!wanted && t >= 0) {
                    back = t;
                    break;
                }
            }
            if (!found && back >= 0) {
                startUnder(r, 2, told, back);
                found = true;
            }
            if (found) {
                transmit(r);
            }
            return r + 1;
        }

        /** The first NET that a PEER was TOLD and for which nothing is CHOSEN; -1: none. */
        private int firstBack(int who) {
            int back = -1;
            for (int t = 0; t < told.count; t++) {
                if (told.get(t, 0) == who && chosen.findPair(NET, told.get(t, NET), told.get(t, BITS)) < 0
                        && (back < 0 || isBefore(told, t, told, back))) {
                    back = t;
                }
            }
            return back;
        }

        private boolean isBefore(Table t, int r, Table u, int q) {
            long d = un(t.get(r, NET)) - un(u.get(q, NET));
            return d < 0 || d == 0 && t.get(r, BITS) < u.get(q, BITS);
        }

        private boolean sameAsWork(int t) {
            boolean same = t >= 0;
            for (int c = 0; c < SYSTEMS + work.get(0, MANY_SYSTEMS) && same; c++) {
                same = told.get(t, c) == work.get(0, c);
            }
            return same;
        }

        private void startUnder(int r, int what, Table from, int q) {
            peers.put(r, SENT, peers.get(r, SENT) + 1 & 65535);
            peers.put(r, UNDER, what);
            int u = under.insert(under.count);
            under.copyRow(u, from, q);
            under.put(u, 0, peers.get(r, 0));
        }

        /** Sends what is under way to a PEER. */
        private void transmit(int r) {
            int u = under.find(0, peers.get(r, 0));
            boolean tell = peers.get(r, UNDER) == 1;
            peers.put(r, UNDER_TIME, w.time);
            Buf p = message(r, tell ? 3 : 4);
            p.a16(peers.get(r, SENT));
            p.a32(under.get(u, NET));
            p.a8(under.get(u, BITS));
            if (tell) {
                p.a32(under.get(u, NEXT));
                p.a8(under.get(u, ORIGIN));
                p.a16(under.get(u, MED));
                p.a16(under.get(u, DEGREE));
                p.a16(under.get(u, MARK));
                p.a8(under.get(u, MANY_SYSTEMS));
                for (int i = 0; i < under.get(u, MANY_SYSTEMS); i++) {
                    p.a16(under.get(u, SYSTEMS + i));
                }
            }
        }

        private boolean isInner(int who) {
            int r = peers.find(0, who);
            return r >= 0 && peers.get(r, 1) == system;
        }

        /** Whether a PEER is to be told a CHOSEN one; as what is in work then. */
        private boolean isWanted(int r, int c) {
            int who = peers.get(r, 0);
            int of = chosen.get(c, 0);
            boolean inner = peers.get(r, 1) == system;
            if (of == who || inner && of != 0 && isInner(of)) {
                return false;
            }
            work.copyRow(0, chosen, c);
            work.put(0, 0, who);
            if (!inner) {
                prepend(8);
                work.put(0, DEGREE, 100);
                work.put(0, MED, 0);
            }
            if (!inner || of == 0) {
                work.put(0, NEXT, selfTo);
            }
            return passes(1, r);
        }

        /** The own SYSTEM before the SYSTEMS in work, if these are at most so many (of 8 the last goes). */
        private void prepend(int most) {
            int many = work.get(0, MANY_SYSTEMS);
            if (many > most) {
                return;
            }
            for (int i = Math.min(many, 7); i > 0; i--) {
                work.put(0, SYSTEMS + i, work.get(0, SYSTEMS + i - 1));
            }
            work.put(0, SYSTEMS, system);
            work.put(0, MANY_SYSTEMS, Math.min(8, many + 1));
        }

        /** POLICY, IN (0) or OUT (1), for what is in work, of a PEER: whether it is accepted. */
        private boolean passes(int way, int r) {
            for (int i = 0; i < policy.count; i++) {
                if (policy.get(i, 0) != way || !holds(i, r)) {
                    continue;
                }
                if (policy.get(i, 12) >= 0) {
                    work.put(0, DEGREE, policy.get(i, 12));
                }
                if (policy.get(i, 13) >= 0) {
                    work.put(0, MED, policy.get(i, 13));
                }
                if (policy.get(i, 14) >= 0) {
                    work.put(0, MARK, policy.get(i, 14));
                }
                for (int k = 0; k < policy.get(i, 15); k++) {
                    prepend(7);
                }
                if (policy.get(i, 11) != 2) {
                    return policy.get(i, 11) == 0;
                }
            }
            return true;
        }

        private boolean holds(int i, int r) {
            int many = work.get(0, MANY_SYSTEMS);
            int bits = work.get(0, BITS);
            if (policy.get(i, 1) >= 0 && policy.get(i, 1) != r) {
                return false;
            }
            if (policy.get(i, 2) == 1 && (bits < policy.get(i, 5) || bits > policy.get(i, 6)
                    || !inNet(work.get(0, NET), policy.get(i, 3), policy.get(i, 4)))) {
                return false;
            }
            boolean has = policy.get(i, 7) < 0;
            for (int k = 0; k < many; k++) {
                has = has || work.get(0, SYSTEMS + k) == policy.get(i, 7);
            }
            int first = many == 0 ? 0 : work.get(0, SYSTEMS);
            int last = many == 0 ? 0 : work.get(0, SYSTEMS + many - 1);
            return has && (policy.get(i, 8) < 0 || policy.get(i, 8) == first)
                    && (policy.get(i, 9) < 0 || policy.get(i, 9) == last)
                    && (policy.get(i, 10) < 0 || policy.get(i, 10) == work.get(0, MARK));
        }

        /** What is CHOSEN anew, and put to all WAYS as those of KIND 4. */
        void rebuild() {
            chosen.count = 0;
            if (system == 0) {
                return;
            }
            for (int i = 0; i < nets.count; i++) {
                int c = chosen.insert(chosen.placeOf(NET, nets.get(i, 0), nets.get(i, 1)));
                chosen.put(c, NET, nets.get(i, 0));
                chosen.put(c, BITS, nets.get(i, 1));
                chosen.put(c, DEGREE, 100);
            }
            for (int h = 0; h < heard.count; h++) {
                int net = heard.get(h, NET);
                int bits = heard.get(h, BITS);
                int best = chosen.findPair(NET, net, bits) >= 0 ? -1 : choose(net, bits);
                if (best >= 0) {
                    int c = chosen.insert(chosen.placeOf(NET, net, bits));
                    chosen.copyRow(c, heard, best);
                }
            }
            for (int c = 0; c < chosen.count; c++) {
                if (chosen.get(c, 0) != 0 && n.ways.find(0, chosen.get(c, NEXT), 3) && n.ways.port >= 0) {
                    n.ways.addWay(chosen.get(c, NET), chosen.get(c, BITS), 4, chosen.get(c, MANY_SYSTEMS),
                            n.ways.next, n.ways.port);
                }
            }
        }

        /** Which of the HEARD for a NET is CHOSEN; -1: none. */
        private int choose(int net, int bits) {
            for (int h = 0; h < heard.count && h < 48; h++) {
                alive[h] = heard.get(h, NET) == net && heard.get(h, BITS) == bits
                        && n.ways.find(0, heard.get(h, NEXT), 3);
                price[h] = n.ways.cost;
            }
            for (int step = 0; step < 8; step++) {
                for (int h = 0; h < heard.count && h < 48; h++) {
                    for (int g = 0; g < heard.count && g < 48 && alive[h]; g++) {
                        boolean near = step != 3 || firstSystem(g) == firstSystem(h);
                        if (alive[g] && near && weight(step, g) < weight(step, h)) {
                            alive[h] = false;
                        }
                    }
                }
            }
            for (int h = 0; h < heard.count && h < 48; h++) {
                if (alive[h]) {
                    return h;
                }
            }
            return -1;
        }

        private int firstSystem(int h) {
            return heard.get(h, MANY_SYSTEMS) == 0 ? 0 : heard.get(h, SYSTEMS);
        }

        private long weight(int step, int h) {
            switch (step) {
                case 0: return -heard.get(h, DEGREE);
                case 1: return heard.get(h, MANY_SYSTEMS);
                case 2: return heard.get(h, ORIGIN);
                case 3: return heard.get(h, MED);
                case 4: return isInner(heard.get(h, 0)) ? 1 : 0;
                case 5: return h >= 0 && h < 48 ? price[h] : 0;
                case 6: return peers.get(peers.find(0, heard.get(h, 0)), NODE);
                default: return un(heard.get(h, 0));
            }
        }
    }

    /** A SOCKET: DATAGRAMS that came, or a STREAM. */
    private static final class Socket {
        static final int CLOSED = 0;
        static final int LISTEN = 1;
        static final int SYN_SENT = 2;
        static final int SYN_CAME = 3;
        static final int OPEN = 4;
        static final int FIN_WAIT_1 = 5;
        static final int FIN_WAIT_2 = 6;
        static final int CLOSE_WAIT = 7;
        static final int CLOSING = 8;
        static final int LAST_ACK = 9;
        static final int TIME_WAIT = 10;

        static final int FIN = 1;
        static final int SYN = 2;
        static final int RST = 4;
        static final int ACK = 16;

        static final int FIRST = 0;
        static final int UNA = 1;
        static final int NEXT = 2;
        static final int MOST = 3;
        static final int ROW_AT = 4;
        static final int ROW_LEN = 5;
        static final int FAR_WINDOW = 6;
        static final int CARE = 7;
        static final int EDGE = 8;
        static final int DUPS = 9;
        static final int RECOVER = 10;
        static final int S = 11;
        static final int V = 12;
        static final int WAIT = 13;
        static final int TIMER = 14;
        static final int TRIES = 15;
        static final int RCV = 16;
        static final int UNREAD = 17;
        static final int TRIP_END = 18;
        static final int TRIP_FROM = 19;
        static final int MEASURED = 20;
        static final int FIN_AT = 21;
        static final int FIN_KNOWN = 22;
        static final int FIN_CAME = 23;
        static final int SHUT = 24;
        static final int WAIT_FROM = 25;
        static final int PART = 26;

        final World w;
        final int num;
        Node n;
        int kind;
        int port;
        int state;
        int failure;
        int far;
        int farPort;
        int self;
        int parent;
        boolean accepted;
        boolean used;
        final int[] v = new int[27];
        final int[] row = new int[400];
        final int[] in = new int[400];
        final boolean[] there = new boolean[400];
        Buf box;
        int boxed;

        Socket(World w, int num) {
            this.w = w;
            this.num = num;
        }

        void become(Node of, int ofKind, int ofPort) {
            empty();
            n = of;
            kind = ofKind;
            port = ofPort;
            state = kind == 0 ? OPEN : kind == 2 ? LISTEN : CLOSED;
            failure = 0;
            far = 0;
            farPort = 0;
            self = 0;
            parent = -1;
            accepted = false;
            used = false;
            for (int i = 0; i < v.length; i++) {
                v[i] = 0;
            }
            v[CARE] = 96;
            v[EDGE] = 240;
            v[WAIT] = 12;
            v[TIMER] = -1;
            v[TRIP_FROM] = -1;
            for (int i = 0; i < there.length; i++) {
                there[i] = false;
            }
        }

        /** DATAGRAMS that were not read are gone. */
        void empty() {
            for (int i = 0; i < 5 && box != null; i++) {
                Buf b = box;
                box = b.next;
                w.release(b);
            }
            boxed = 0;
        }

        void nodeFell() {
            if (state != CLOSED) {
                fail(5);
            }
            empty();
        }

        void fail(int e) {
            state = CLOSED;
            failure = e;
            v[TIMER] = -1;
        }

        /** Whether it has its port for itself. One that came of a LISTEN one has been used from its first moment. */
        boolean holdsPort() {
            return state != CLOSED || kind == 1 && !used;
        }

        // DATAGRAMS

        void keep(Buf p) {
            if (boxed >= 4) {
                return;
            }
            Buf b = w.fetch();
            b.append(p, 10, 4);
            b.append(p, HEAD, 2);
            b.append(p, HEAD + 8, p.len);
            Buf last = box;
            for (int i = 0; i < 5 && last != null && last.next != null; i++) {
                last = last.next;
            }
            if (last == null) {
                box = b;
            } else {
                last.next = b;
            }
            boxed++;
        }

        void sendDatagram(Buf tape) {
            Buf p = n.own(17, far);
            p.a16(port);
            p.a16(farPort);
            p.a16(8 + tape.len);
            p.a16(0);
            p.append(tape, 0, tape.len);
            p.p16(HEAD + 6, p.sum(HEAD, p.len, HEAD + 6));
        }

        // STREAMS

        private int window() {
            return 400 - v[UNREAD];
        }

        private void setPart() {
            v[PART] = Math.max(8, Math.min(48, n.pathSize(far) - 36));
        }

        private int rowEnd() {
            return v[ROW_AT] + v[ROW_LEN];
        }

        /** Sends a SEGMENT with n bytes of the ROW from NUMBER on. */
        private void emit(int flags, int number, int bytes, int window) {
            Buf p = w.make(World.OWN, n.num);
            p.len = HEAD;
            for (int i = 0; i < HEAD; i++) {
                p.b[i] = 0;
            }
            p.p8(0, 64);
            p.p8(1, 6);
            p.p8(3, 32);
            p.p8(6, 64);
            p.p32(10, self);
            p.p32(14, far);
            p.x = self != 0 ? 1 : 0;
            p.a16(port);
            p.a16(farPort);
            p.a32(number);
            p.a32((flags & ACK) != 0 ? v[RCV] : 0);
            p.a8(flags);
            p.a8(0);
            p.a16(window);
            p.a16(0);
            for (int i = 0; i < bytes; i++) {
                int k = number - v[ROW_AT] + i;
                p.a8(k >= 0 && k < 400 ? row[k] : 0);
            }
            p.p16(HEAD + 16, p.sum(HEAD, p.len, HEAD + 16));
        }

        private void sendAck() {
            emit(ACK, v[NEXT], 0, 400 - v[UNREAD]);
        }

        private void sendSyn() {
            emit(state == SYN_CAME ? SYN | ACK : SYN, v[FIRST], 0, 400 - v[UNREAD]);
        }

        /** Begins a STREAM: FIRST, and the TIMER for the SYN that is sent. */
        private void start(int toState) {
            state = toState;
            used = true;
            int high = w.draw();
            v[FIRST] = high << 16 | w.draw();
            v[UNA] = v[FIRST];
            v[NEXT] = v[FIRST] + 1;
            v[MOST] = v[NEXT];
            v[ROW_AT] = v[NEXT];
            v[TIMER] = w.time + v[WAIT];
            sendSyn();
        }

        void callUp(int to, int toPort) {
            far = to;
            farPort = toPort;
            self = n.fromFor(to);
            start(SYN_SENT);
        }

        int writeFrom(Buf tape) {
            int k = Math.min(400 - v[ROW_LEN], tape.len);
            for (int i = 0; i < k; i++) {
                row[v[ROW_LEN] + i] = tape.u8(i);
            }
            v[ROW_LEN] += k;
            tape.cutFront(k);
            setPart();
            push();
            return k;
        }

        int readTo(Buf out, int most) {
            int k = Math.min(most, v[UNREAD]);
            if (k < 1) {
                return v[FIN_CAME] == 1 ? -2 : state == CLOSED ? -3 : -1;
            }
            boolean small = window() < 48;
            out.len = 0;
            for (int i = 0; i < k; i++) {
                out.a8(in[i]);
            }
            for (int i = 0; i < 400; i++) {
                in[i] = i + k < 400 ? in[i + k] : 0;
                there[i] = i + k < 400 && there[i + k];
            }
            v[UNREAD] -= k;
            if (small && window() >= 48 && state >= OPEN && state <= FIN_WAIT_2) {
                sendAck();
            }
            return k;
        }

        void closeBy(int how) {
            if (how == 1) {
                boolean told = state == SYN_CAME || state >= OPEN && state <= CLOSE_WAIT;
                if (kind != 0 && told) {
                    emit(RST, v[NEXT], 0, 400 - v[UNREAD]);
                }
                shutNow();
            } else if (kind == 0 || state == LISTEN || state == SYN_SENT) {
                shutNow();
            } else if (state == OPEN || state == CLOSE_WAIT) {
                state = state == OPEN ? FIN_WAIT_1 : LAST_ACK;
                v[SHUT] = 1;
                setPart();
                push();
            }
            used = true;
        }

        private void shutNow() {
            state = CLOSED;
            v[TIMER] = -1;
            if (kind == 0) {
                empty();
            }
        }

        /** TO PUSH. */
        private void push() {
            boolean may = state == OPEN || state == FIN_WAIT_1 || state >= CLOSE_WAIT && state <= LAST_ACK;
            if (!may) {
                return;
            }
            for (int i = 0; i < 500; i++) {
                int left = v[ROW_AT] + v[ROW_LEN] - v[NEXT];
                int flight = v[NEXT] - v[UNA];
                int k = Math.min(left, Math.min(v[PART], Math.min(v[FAR_WINDOW], v[CARE]) - flight));
                if (k <= 0 || k != v[PART] && flight != 0 && (k != left || v[SHUT] == 0)) {
                    break;
                }
                emit(ACK, v[NEXT], k, 400 - v[UNREAD]);
                advance(k);
            }
            if (v[SHUT] == 1 && v[NEXT] == v[ROW_AT] + v[ROW_LEN]) {
                emit(ACK | FIN, v[NEXT], 0, 400 - v[UNREAD]);
                advance(1);
            }
            int flight = v[NEXT] - v[UNA];
            boolean stuck = v[ROW_AT] + v[ROW_LEN] - v[NEXT] > 0 && flight == 0 && v[FAR_WINDOW] == 0;
            if (v[TIMER] < 0 && (flight > 0 || stuck)) {
                v[TIMER] = w.time + v[WAIT];
            }
        }

        /** NEXT goes on behind what was pushed; a round trip may begin with it. */
        private void advance(int k) {
            if (v[TRIP_FROM] < 0 && v[NEXT] == v[MOST]) {
                v[TRIP_FROM] = w.time;
                v[TRIP_END] = v[NEXT] + k;
            }
            v[NEXT] += k;
            if (v[NEXT] - v[MOST] > 0) {
                v[MOST] = v[NEXT];
            }
        }

        boolean due() {
            return v[TIMER] >= 0 && w.time >= v[TIMER] || state == TIME_WAIT && w.time - v[WAIT_FROM] >= 20;
        }

        /** THE TIMER, and the end of TIME WAIT. */
        void clock() {
            if (state == TIME_WAIT && w.time - v[WAIT_FROM] >= 20) {
                state = CLOSED;
                v[TIMER] = -1;
                return;
            }
            v[TRIES]++;
            if (v[TRIES] >= 7) {
                fail(4);
                return;
            }
            v[WAIT] = Math.min(64, 2 * v[WAIT]);
            v[TRIP_FROM] = -1;
            v[TIMER] = w.time + v[WAIT];
            int flight = v[NEXT] - v[UNA];
            if (state == SYN_SENT || state == SYN_CAME) {
                sendSyn();
            } else if (flight == 0) {
                v[TRIES] = 0;
                if (v[ROW_AT] + v[ROW_LEN] - v[NEXT] > 0) {
                    if (v[MOST] == v[NEXT]) {
                        v[MOST] = v[NEXT] + 1;
                    }
                    emit(ACK, v[NEXT], 1, 400 - v[UNREAD]);
                }
            } else {
                v[EDGE] = Math.max(96, flight / 2);
                v[CARE] = 48;
                v[DUPS] = 0;
                v[RECOVER] = v[MOST];
                v[NEXT] = v[UNA];
                setPart();
                push();
            }
        }

        /** A SEGMENT that is for this SOCKET. */
        void segment(Buf p) {
            int flags = p.u8(HEAD + 12);
            setPart();
            if (state == LISTEN) {
                listened(p, flags);
            } else if (state == SYN_SENT) {
                answered(p, flags);
            } else if (state > SYN_SENT) {
                others(p, flags);
            }
        }

        private void listened(Buf p, int flags) {
            if ((flags & RST) != 0) {
                return;
            }
            if ((flags & ACK) != 0) {
                n.refuse(p);
                return;
            }
            int many = 0;
            for (int i = 0; i < w.socketCount; i++) {
                Socket s = w.sockets[i];
                many += s.parent == num && !s.accepted && s.state != CLOSED ? 1 : 0;
            }
            Socket s = (flags & SYN) == 0 || many >= 3 ? null : w.addSocket(n, 1, port);
            if (s != null) {
                s.parent = num;
                s.far = p.u32(10);
                s.farPort = p.u16(HEAD);
                s.self = n.owns(p.u32(14)) ? p.u32(14) : 0;
                s.v[RCV] = p.u32(HEAD + 4) + 1;
                s.v[FAR_WINDOW] = p.u16(HEAD + 14);
                s.start(SYN_CAME);
            }
        }

        private void answered(Buf p, int flags) {
            boolean ack = (flags & ACK) != 0;
            if (ack && p.u32(HEAD + 8) != v[FIRST] + 1) {
                n.refuse(p);
                return;
            }
            if ((flags & RST) != 0) {
                if (ack) {
                    fail(2);
                }
                return;
            }
            if ((flags & SYN) == 0) {
                return;
            }
            v[RCV] = p.u32(HEAD + 4) + 1;
            v[FAR_WINDOW] = p.u16(HEAD + 14);
            if (ack) {
                v[UNA] = p.u32(HEAD + 8);
                state = OPEN;
                v[TRIES] = 0;
                v[TIMER] = -1;
                sendAck();
                push();
            } else {
                state = SYN_CAME;
                sendSyn();
            }
        }

        private void others(Buf p, int flags) {
            if (state == TIME_WAIT && (flags & FIN) != 0) {
                v[WAIT_FROM] = w.time;
            }
            int o = p.u32(HEAD + 4) - v[RCV];
            int l = p.len - HEAD - 18 + (flags >> 1 & 1) + (flags & FIN);
            int wide = window();
            boolean wanted = l == 0 ? o == 0 || o > 0 && o < wide : wide > 0 && o < wide && o + l > 0;
            if (!wanted || (flags & RST) != 0 && o != 0 || (flags & RST) == 0 && (flags & SYN) != 0) {
                if (wanted || (flags & RST) == 0) {
                    sendAck();
                }
                return;
            }
            if ((flags & RST) != 0) {
                fail(3);
                return;
            }
            if ((flags & ACK) == 0) {
                return;
            }
            int ack = p.u32(HEAD + 8);
            if (state == SYN_CAME) {
                if (ack - v[UNA] <= 0 || ack - v[MOST] > 0) {
                    emit(RST, ack, 0, 0);
                    return;
                }
                state = OPEN;
                v[UNA] = v[FIRST] + 1;
                v[TRIES] = 0;
                v[TIMER] = -1;
                v[FAR_WINDOW] = p.u16(HEAD + 14);
            }
            if (ack - v[MOST] > 0) {
                sendAck();
                return;
            }
            int done = ack - v[UNA];
            if (done > 0) {
                thankedFor(ack, done);
            } else if (done == 0 && l == 0 && p.u16(HEAD + 14) == v[FAR_WINDOW] && v[NEXT] - v[UNA] > 0) {
                thankedAgain();
            }
            settle(ack, p.u16(HEAD + 14));
            if (state == CLOSED) {
                return;
            }
            if (state == OPEN || state == FIN_WAIT_1 || state == FIN_WAIT_2) {
                takeBytes(p, o, flags);
            }
            if (l > 0) {
                sendAck();
            }
            push();
        }

        /** An ACK that thanks for nothing new. */
        private void thankedAgain() {
            v[DUPS]++;
            if (v[DUPS] == 3) {
                v[EDGE] = Math.max(96, (v[NEXT] - v[UNA]) / 2);
                v[RECOVER] = v[MOST];
                resend(v[UNA]);
                v[TRIP_FROM] = -1;
                v[CARE] = Math.min(400, v[EDGE] + 144);
            } else if (v[DUPS] > 3) {
                v[CARE] = Math.min(400, v[CARE] + 48);
            }
        }

        /** FAR WINDOW, and what becomes of a FIN that is thanked for. */
        private void settle(int ack, int wide) {
            if (v[UNA] - ack <= 0) {
                v[FAR_WINDOW] = wide;
            }
            if (v[SHUT] == 1 && v[UNA] - rowEnd() > 0) {
                if (state == FIN_WAIT_1) {
                    state = FIN_WAIT_2;
                } else if (state == CLOSING) {
                    state = TIME_WAIT;
                    v[WAIT_FROM] = w.time;
                } else if (state == LAST_ACK) {
                    state = CLOSED;
                    v[TIMER] = -1;
                }
            }
        }

        private void thankedFor(int ack, int done) {
            int k = Math.max(0, Math.min(v[ROW_LEN], ack - v[ROW_AT]));
            System.arraycopy(row, k, row, 0, v[ROW_LEN] - k);
            v[ROW_LEN] -= k;
            v[ROW_AT] += k;
            if (v[TRIP_FROM] >= 0 && v[TRIP_END] - ack <= 0) {
                measure(w.time - v[TRIP_FROM]);
                v[TRIP_FROM] = -1;
            }
            if (v[DUPS] >= 3 && v[RECOVER] - ack > 0) {
                resend(ack);
                v[CARE] = Math.max(48, v[CARE] - done + 48);
            } else if (v[DUPS] >= 3) {
                v[CARE] = v[EDGE];
                v[DUPS] = 0;
            } else {
                v[CARE] += v[CARE] < v[EDGE] ? Math.min(done, 48) : Math.max(1, 2304 / Math.max(1, v[CARE]));
                v[DUPS] = 0;
            }
            v[CARE] = Math.min(400, v[CARE]);
            v[UNA] = ack;
            if (v[NEXT] - ack <= 0) {
                v[NEXT] = ack;
            }
            v[TRIES] = 0;
            v[TIMER] = v[NEXT] - v[UNA] > 0 ? w.time + v[WAIT] : -1;
        }

        private void measure(int r) {
            if (v[MEASURED] == 0) {
                v[MEASURED] = 1;
                v[S] = 8 * r;
                v[V] = 2 * r;
            } else {
                int e = r - v[S] / 8;
                v[S] += e;
                v[V] += Math.abs(e) - v[V] / 4;
            }
            v[WAIT] = Math.max(4, Math.min(64, v[S] / 8 + Math.max(1, v[V])));
        }

        /** PART bytes from a NUMBER on, as far as they were ever sent, else the FIN, are sent again. */
        private void resend(int from) {
            int k = Math.min(v[PART], Math.min(rowEnd() - from, v[MOST] - from));
            if (k > 0) {
                emit(ACK, from, k, 400 - v[UNREAD]);
            } else if (v[SHUT] == 1 && v[MOST] - rowEnd() > 0) {
                emit(ACK | FIN, rowEnd(), 0, 400 - v[UNREAD]);
            }
        }

        /** The bytes and the FIN of a SEGMENT, o behind RCV. */
        private void takeBytes(Buf p, int o, int flags) {
            int wide = window();
            int many = p.len - HEAD - 18;
            for (int i = 0; i < many; i++) {
                int at = o + i;
                boolean beyond = v[FIN_KNOWN] == 1 && v[RCV] + at - v[FIN_AT] >= 0;
                if (at >= 0 && at < wide && !beyond && !there[v[UNREAD] + at]) {
                    there[v[UNREAD] + at] = true;
                    in[v[UNREAD] + at] = p.u8(HEAD + 18 + i);
                }
            }
            int end = o + many;
            if ((flags & FIN) != 0 && v[FIN_KNOWN] == 0 && end >= 0 && end <= wide) {
                v[FIN_KNOWN] = 1;
                v[FIN_AT] = v[RCV] + end;
            }
            for (int i = 0; i < 400; i++) {
                boolean last = v[FIN_KNOWN] == 1 && v[RCV] == v[FIN_AT];
                if (last || v[UNREAD] >= 400 || !there[v[UNREAD]]) {
                    break;
                }
                v[UNREAD]++;
                v[RCV]++;
            }
            if (v[FIN_KNOWN] == 1 && v[RCV] == v[FIN_AT] && v[FIN_CAME] == 0) {
                v[FIN_CAME] = 1;
                v[RCV]++;
                v[WAIT_FROM] = w.time;
                state = state == OPEN ? CLOSE_WAIT : state == FIN_WAIT_1 ? CLOSING : TIME_WAIT;
            }
        }
    }

    /** NAMES of a NODE: its ZONES, and what it RESOLVES. A NAME is four numbers, its highest LABEL first. */
    private static final class Names {
        static final int DATA = 130;
        static final int STATE = 4;
        static final int CODE = 5;
        static final int KIND = 6;
        static final int ALIASES = 7;
        static final int ASKED = 8;
        static final int REPEATS = 9;
        static final int SENT = 10;
        static final int NUMBER = 11;
        static final int SERVER = 12;
        static final int ZONE = 13;
        static final int FAILED = 3;

        final World w;
        final Node n;
        /** NAME, LIFE. */
        final Table zones = new Table(5, 3);
        /** NAME, ZONE, KIND, LIFE, VALUE. */
        final Table rows = new Table(11, 24);
        int root;
        /** NAME, KIND, till when, VALUE. */
        final Table cache = new Table(10, 16);
        final Table questions = new Table(17, 4);
        /** QUESTION, VALUE. */
        final Table values = new Table(5, 64);
        /** Row 0: a NAME asked for; row 1: one that is looked for. */
        final Table sought = new Table(4, 2);
        /** ROWS of an ANSWER that came: NAME, KIND, LIFE, VALUE. */
        final Table came = new Table(10, 32);
        final long[] parsed = new long[4];

        Names(World w, Node n) {
            this.w = w;
            this.n = n;
            for (int i = 0; i < 4; i++) {
                questions.insert(i);
            }
            sought.insert(0);
            sought.insert(1);
        }

        void reset() {
            zones.count = 0;
            rows.count = 0;
            root = 0;
        }

        /** CACHE and QUESTIONS are gone. */
        void clear() {
            cache.count = 0;
            values.count = 0;
            for (int q = 0; q < 4; q++) {
                questions.put(q, STATE, 0);
            }
        }

        private static int codeOf(int c) {
            if (c >= 'a' && c <= 'z') {
                return c - 'a' + 1;
            }
            if (c >= '0' && c <= '9') {
                return c - '0' + 27;
            }
            return c == '-' ? 37 : c == '*' ? 38 : 0;
        }

        private static int letterOf(int code) {
            if (code <= 26) {
                return 'a' + code - 1;
            }
            return code <= 36 ? '0' + code - 27 : code == 37 ? '-' : '*';
        }

        /** Reads a NAME of so many letters: how many LABELS it has (0 the ROOT), -1 if it is none. */
        static int readName(Buf b, int at, int many, boolean star, long[] into) {
            for (int i = 0; i < 4; i++) {
                into[i] = 0;
            }
            if (many == 1 && b.u8(at) == '.') {
                return 0;
            }
            int label = 0;
            int letters = 0;
            long scale = 1;
            for (int i = at + many - 1; i >= at; i--) {
                int code = codeOf(b.u8(i));
                if (code > 0) {
                    boolean wild = code == 38;
                    if (letters >= 8 || label > 3 || wild && (!star || letters > 0 || i != at)) {
                        return -1;
                    }
                    into[label] += code * scale;
                    scale *= 64;
                    letters++;
                } else if (b.u8(i) == '.' && letters > 0 && i > at) {
                    label++;
                    letters = 0;
                    scale = 1;
                } else {
                    return -1;
                }
            }
            return many > 0 && label < 4 ? label + 1 : -1;
        }

        private static int lettersOf(long label) {
            int k = 0;
            for (long x = label; x > 0 && k < 8; x /= 64) {
                k++;
            }
            return k;
        }

        static int lengthOf(Table t, int r, int c) {
            int many = 0;
            for (int i = 0; i < 4 && t.at(r, c + i) != 0; i++) {
                many += lettersOf(t.at(r, c + i)) + 1;
            }
            return many == 0 ? 1 : many - 1;
        }

        /** Puts the letters of a NAME behind what is in b, its lowest LABEL first. */
        static void writeName(Buf b, Table t, int r, int c) {
            boolean first = true;
            for (int i = 3; i >= 0; i--) {
                long label = t.at(r, c + i);
                if (label != 0 && !first) {
                    b.a8('.');
                }
                first = first && label == 0;
                for (int k = 42; k >= 0; k -= 6) {
                    int code = (int) (label >> k & 63);
                    if (code > 0) {
                        b.a8(letterOf(code));
                    }
                }
            }
            if (first) {
                b.a8('.');
            }
        }

        static int labels(Table t, int r, int c) {
            int many = 0;
            while (many < 4 && t.at(r, c + many) != 0) {
                many++;
            }
            return many;
        }

        /** Whether the NAME at t, r, c is the one at u, q, d or below it. */
        static boolean isIn(Table t, int r, int c, Table u, int q, int d) {
            for (int i = 0; i < 4 && u.at(q, d + i) != 0; i++) {
                if (t.at(r, c + i) != u.at(q, d + i)) {
                    return false;
                }
            }
            return true;
        }

        static boolean same(Table t, int r, int c, Table u, int q, int d) {
            for (int i = 0; i < 4; i++) {
                if (t.at(r, c + i) != u.at(q, d + i)) {
                    return false;
                }
            }
            return true;
        }

        static void copyName(Table t, int r, int c, Table u, int q, int d) {
            for (int i = 0; i < 4; i++) {
                t.put(r, c + i, u.at(q, d + i));
            }
        }

        // ZONES

        /** A QUESTION that was TAKEN. */
        void reply(Buf p) {
            int many = p.u8(HEAD + 4);
            if (zones.count == 0 || p.len < HEAD + 5 || p.len != HEAD + 5 + many
                    || readName(p, HEAD + 5, many, false, parsed) < 0) {
                return;
            }
            for (int i = 0; i < 4; i++) {
                sought.put(0, i, parsed[i]);
            }
            Buf a = n.own(53, p.u32(10));
            a.a8(1);
            a.a16(p.u16(HEAD + 1));
            a.a8(4);
            a.a8(0);
            tellAnswer(a, p.u8(HEAD + 3));
        }

        /** CODE and ROWS of the ANSWER for the NAME in sought and a KIND. */
        private void tellAnswer(Buf a, int kind) {
            int z = -1;
            for (int i = 0; i < zones.count; i++) {
                if (isIn(sought, 0, 0, zones, i, 0) && (z < 0 || labels(zones, i, 0) > labels(zones, z, 0))) {
                    z = i;
                }
            }
            if (z < 0) {
                return;
            }
            if (findCut(z)) {
                a.p8(HEAD + 3, 3);
                tellCut(a, z);
                return;
            }
            copyName(sought, 1, 0, sought, 0, 0);
            if (tellRows(a, z, kind)) {
                return;
            }
            boolean below = false;
            for (int r = 0; r < rows.count; r++) {
                below = below || rows.get(r, 4) == z && isIn(rows, r, 0, sought, 0, 0);
            }
            int many = labels(sought, 0, 0);
            sought.put(1, many - 1, 38);
            if (!below && many > 0 && tellRows(a, z, kind)) {
                return;
            }
            tellNo(a, z, below ? 2 : 1);
        }

        /** Whether a CUT is the NAME asked for or above it: the highest such is sought then. */
        private boolean findCut(int z) {
            for (int level = labels(zones, z, 0) + 1; level <= labels(sought, 0, 0); level++) {
                for (int i = 0; i < 4; i++) {
                    sought.put(1, i, i < level ? sought.at(0, i) : 0);
                }
                for (int r = 0; r < rows.count; r++) {
                    if (rows.get(r, 4) == z && rows.get(r, 5) == 2 && same(rows, r, 0, sought, 1, 0)) {
                        return true;
                    }
                }
            }
            return false;
        }

        private void tellCut(Buf a, int z) {
            boolean more = true;
            for (int r = 0; r < rows.count && more; r++) {
                if (rows.get(r, 4) == z && rows.get(r, 5) == 2 && same(rows, r, 0, sought, 1, 0)) {
                    more = tellRow(a, r, rows, r);
                }
            }
            for (int r = 0; r < rows.count; r++) {
                if (rows.get(r, 4) != z || rows.get(r, 5) != 2 || !same(rows, r, 0, sought, 1, 0)) {
                    continue;
                }
                for (int k = 0; k < rows.count && more; k++) {
                    if (rows.get(k, 4) == z && rows.get(k, 5) == 1 && same(rows, k, 0, rows, r, 7)) {
                        more = tellRow(a, k, rows, k);
                    }
                }
            }
        }

        /** The ROWS of the NAME that is sought, of a KIND or ALIASES, or 2: false if there is none of it. */
        private boolean tellRows(Buf a, int z, int kind) {
            boolean any = false;
            boolean right = false;
            boolean alias = false;
            for (int r = 0; r < rows.count; r++) {
                if (rows.get(r, 4) == z && same(rows, r, 0, sought, 1, 0)) {
                    any = true;
                    right = right || rows.get(r, 5) == kind;
                    alias = alias || rows.get(r, 5) == 3;
                }
            }
            if (!any) {
                return false;
            }
            if (!right && !alias) {
                tellNo(a, z, 2);
                return true;
            }
            a.p8(HEAD + 3, 0);
            boolean more = true;
            for (int r = 0; r < rows.count && more; r++) {
                if (rows.get(r, 4) == z && same(rows, r, 0, sought, 1, 0) && rows.get(r, 5) == (right ? kind : 3)) {
                    more = tellRow(a, r, sought, 0);
                }
            }
            return true;
        }

        private void tellNo(Buf a, int z, int code) {
            a.p8(HEAD + 3, code);
            a.p8(HEAD + 4, 1);
            a.a8(0);
            a.a16(zones.get(z, 4));
            a.a8(lengthOf(zones, z, 0));
            writeName(a, zones, z, 0);
            a.a8(0);
        }

        /** Puts ROW r, told with the NAME at t, q, into an ANSWER: false if there is no room for it. */
        private boolean tellRow(Buf a, int r, Table t, int q) {
            int kind = rows.get(r, 5);
            boolean number = kind == 1 || kind == 4;
            int more = 4 + lengthOf(t, q, 0) + (number ? 4 : 1 + lengthOf(rows, r, 7));
            if (a.u8(HEAD + 4) >= 5 || a.len - HEAD + more > DATA) {
                return false;
            }
            a.p8(HEAD + 4, a.u8(HEAD + 4) + 1);
            a.a8(kind);
            a.a16(rows.get(r, 6));
            a.a8(lengthOf(t, q, 0));
            writeName(a, t, q, 0);
            if (number) {
                a.a32(rows.get(r, 7));
            } else {
                a.a8(lengthOf(rows, r, 7));
                writeName(a, rows, r, 7);
            }
            return true;
        }

        // RESOLVING

        /** An ANSWER that was TAKEN. */
        void comeAnswer(Buf p) {
            if (p.u8(HEAD) != 1 || root == 0 || p.u8(HEAD + 3) > 4 || !rightAnswer(p)) {
                return;
            }
            for (int q = 0; q < 4; q++) {
                if (questions.get(q, STATE) == 1 && questions.get(q, SERVER) == p.u32(10)
                        && questions.get(q, NUMBER) == p.u16(HEAD + 1)) {
                    answered(q, p.u8(HEAD + 3));
                    return;
                }
            }
        }

        /** Whether an ANSWER's ROWS are right; they are in came then. */
        private boolean rightAnswer(Buf p) {
            if (p.len < HEAD + 5) {
                return false;
            }
            came.count = 0;
            int at = HEAD + 5;
            for (int i = 0; i < p.u8(HEAD + 4); i++) {
                at = readRow(p, at);
                if (at < 0) {
                    return false;
                }
            }
            return true;
        }

        /** Reads a ROW of an ANSWER into came: where the next one begins, -1 if it can't be. */
        private int readRow(Buf p, int at) {
            int kind = p.u8(at);
            int many = p.u8(at + 3);
            int end = at + 4 + many;
            if (end >= p.len || kind > 4 || readName(p, at + 4, many, false, parsed) < 0) {
                return -1;
            }
            int r = came.insert(came.count);
            for (int i = 0; i < 4; i++) {
                came.put(r, i, parsed[i]);
            }
            came.put(r, 4, kind);
            came.put(r, 5, p.u16(at + 1));
            if (kind == 1 || kind == 4) {
                came.put(r, 6, p.u32(end));
                return end + 4 <= p.len ? end + 4 : -1;
            }
            many = p.u8(end);
            if (kind == 0) {
                return many == 0 ? end + 1 : -1;
            }
            if (end + 1 + many > p.len || readName(p, end + 1, many, false, parsed) < 0) {
                return -1;
            }
            for (int i = 0; i < 4; i++) {
                came.put(r, 6 + i, parsed[i]);
            }
            return end + 1 + many;
        }

        private void answered(int q, int code) {
            int life = 0;
            boolean further = false;
            for (int r = 0; r < came.count; r++) {
                if (came.get(r, 4) == 0) {
                    life = came.get(r, 5);
                } else if (isIn(came, r, 0, questions, q, ZONE)) {
                    keep(came, r, came.get(r, 4), came.get(r, 5));
                    further = further || came.get(r, 4) == 2 && !same(came, r, 0, questions, q, ZONE)
                            && isIn(questions, q, 0, came, r, 0);
                }
            }
            if (code == 1 || code == 2) {
                if (life > 0) {
                    keep(questions, q, code == 1 ? 0 : 10 + questions.get(q, KIND), life);
                }
                finish(q, code);
            } else if (code == 4 || code == 3 && !further) {
                finish(q, FAILED);
            } else {
                w.make(World.STEPS, n.num).x = q;
            }
        }

        /** A ROW comes into the CACHE, with the NAME at t, r, and, of KINDS 1 to 4, the VALUE there. */
        private void keep(Table t, int r, int kind, int life) {
            boolean value = kind >= 1 && kind <= 4;
            for (int c = cache.count - 1; c >= 0; c--) {
                if (cache.get(c, 4) == kind && same(cache, c, 0, t, r, 0) && (!value || same(cache, c, 6, t, r, 6))) {
                    cache.remove(c);
                }
            }
            if (cache.count >= cache.most) {
                cache.remove(cache.least(5));
            }
            int c = cache.insert(cache.count);
            copyName(cache, c, 0, t, r, 0);
            cache.put(c, 4, kind);
            cache.put(c, 5, w.time + life);
            for (int i = 0; i < 4 && value; i++) {
                cache.put(c, 6 + i, t.at(r, 6 + i));
            }
        }

        private void finish(int q, int code) {
            questions.put(q, STATE, 2);
            questions.put(q, CODE, code);
        }

        /** The first ROW of a KIND and a NAME in the CACHE that counts, from one on; -1 none. */
        private int cached(int from, int kind, Table t, int r, int c) {
            for (int i = from; i < cache.count; i++) {
                if (cache.get(i, 4) == kind && w.time < cache.get(i, 5) && same(cache, i, 0, t, r, c)) {
                    return i;
                }
            }
            return -1;
        }

        /** TO ASK for the NAME in sought: the number of the QUESTION. */
        int start(int kind) {
            int q = 0;
            while (q < 4 && questions.get(q, STATE) == 1) {
                q++;
            }
            for (int r = values.count - 1; r >= 0; r--) {
                if (values.get(r, 0) == q) {
                    values.remove(r);
                }
            }
            for (int c = 0; c < questions.width; c++) {
                questions.put(q, c, 0);
            }
            copyName(questions, q, 0, sought, 0, 0);
            questions.put(q, KIND, kind);
            questions.put(q, STATE, 1);
            steps(q);
            return q;
        }

        void steps(int q) {
            int kind = questions.get(q, KIND);
            for (int i = 0; i < 8; i++) {
                if (cached(0, kind, questions, q, 0) >= 0) {
                    takeValues(q, kind);
                    finish(q, 0);
                    return;
                }
                boolean no = cached(0, 0, questions, q, 0) >= 0;
                if (no || cached(0, 10 + kind, questions, q, 0) >= 0) {
                    finish(q, no ? 1 : 2);
                    return;
                }
                int alias = cached(0, 3, questions, q, 0);
                if (alias < 0) {
                    chooseServer(q);
                    sendQuestion(q);
                    return;
                }
                questions.put(q, ALIASES, questions.get(q, ALIASES) + 1);
                if (questions.get(q, ALIASES) >= 6) {
                    finish(q, FAILED);
                    return;
                }
                copyName(questions, q, 0, cache, alias, 6);
            }
        }

        private void takeValues(int q, int kind) {
            for (int c = cached(0, kind, questions, q, 0); c >= 0; c = cached(c + 1, kind, questions, q, 0)) {
                int r = values.insert(values.count);
                values.put(r, 0, q);
                copyName(values, r, 1, cache, c, 6);
            }
        }

        /** Whom to ask further: the lowest SERVER with an ADDRESS in the CACHE, else the ROOT. */
        private void chooseServer(int q) {
            questions.put(q, REPEATS, 0);
            for (int level = labels(questions, q, 0); level > 0; level--) {
                for (int i = 0; i < 4; i++) {
                    questions.put(q, ZONE + i, i < level ? questions.at(q, i) : 0);
                }
                for (int c = cached(0, 2, questions, q, ZONE); c >= 0; c = cached(c + 1, 2, questions, q, ZONE)) {
                    int a = cached(0, 1, cache, c, 6);
                    if (a >= 0) {
                        questions.put(q, SERVER, cache.get(a, 6));
                        return;
                    }
                }
            }
            for (int i = 0; i < 4; i++) {
                questions.put(q, ZONE + i, 0);
            }
            questions.put(q, SERVER, root);
        }

        private void sendQuestion(int q) {
            if (questions.get(q, SENT) >= 12) {
                finish(q, FAILED);
                return;
            }
            questions.put(q, SENT, questions.get(q, SENT) + 1);
            questions.put(q, ASKED, w.time);
            questions.put(q, NUMBER, w.draw());
            Buf p = n.own(53, questions.get(q, SERVER));
            p.a8(0);
            p.a16(questions.get(q, NUMBER));
            p.a8(questions.get(q, KIND));
            p.a8(lengthOf(questions, q, 0));
            writeName(p, questions, q, 0);
        }

        int clock(int sub) {
            for (int q = sub; q < 4; q++) {
                if (questions.get(q, STATE) == 1 && w.time - questions.get(q, ASKED) >= 15) {
                    if (questions.get(q, REPEATS) >= 3) {
                        finish(q, FAILED);
                    } else {
                        questions.put(q, REPEATS, questions.get(q, REPEATS) + 1);
                        sendQuestion(q);
                    }
                }
            }
            return -1;
        }

        /** VALUE i of what a QUESTION was answered, into out: whether there is one. */
        boolean value(int q, int i, Buf out) {
            int k = 0;
            for (int r = 0; r < values.count; r++) {
                if (values.get(r, 0) == q) {
                    if (k == i) {
                        int kind = questions.get(q, KIND);
                        out.len = 0;
                        if (kind == 1 || kind == 4) {
                            out.a32(values.get(r, 1));
                        } else {
                            writeName(out, values, r, 1);
                        }
                        return true;
                    }
                    k++;
                }
            }
            return false;
        }
    }

    // TEXTS

    private static boolean mayStand(int c) {
        return c >= 'a' && c <= 'z' || c >= 'A' && c <= 'Z' || c >= '0' && c <= '9'
                || c == '.' || c == '-' || c == '*' || c == '/';
    }

    /** Finds the WORDS of the LINE that begins at a place (words -1: it can't stand): where it ends. */
    private int splitLine(int from) {
        words = 0;
        int begun = -1;
        boolean bad = false;
        int i = from;
        while (i < tape.len && tape.u8(i) != 10) {
            boolean blank = tape.u8(i) == 32;
            bad = bad || !blank && !mayStand(tape.u8(i));
            if (!blank && begun < 0) {
                begun = i;
            }
            i++;
            boolean over = i >= tape.len || tape.u8(i) == 10 || tape.u8(i) == 32;
            if (begun >= 0 && over && words >= 0 && words < wordAt.length) {
                bad = bad || i - begun > 40;
                wordAt[words] = begun;
                wordLen[words] = i - begun;
                words++;
                begun = -1;
            }
        }
        if (bad) {
            words = -1;
        }
        return i;
    }

    private boolean isWord(int k, String s) {
        if (k < 0 || k >= words || k >= wordAt.length || wordLen[k] != s.length()) {
            return false;
        }
        for (int i = 0; i < s.length(); i++) {
            if (tape.u8(wordAt[k] + i) != s.charAt(i)) {
                return false;
            }
        }
        return true;
    }

    /** An N in the bytes from - to, up to most; -1 if it is none. */
    private int readNumber(int from, int to, int most) {
        if (to - from < 1 || to - from > 9) {
            return -1;
        }
        int v = 0;
        for (int i = from; i < to; i++) {
            int c = tape.u8(i);
            if (c < '0' || c > '9') {
                return -1;
            }
            v = 10 * v + c - '0';
        }
        return v <= most ? v : -1;
    }

    private int numberWord(int k, int most) {
        if (k < 0 || k >= words || k >= wordAt.length) {
            return -1;
        }
        return readNumber(wordAt[k], wordAt[k] + wordLen[k], most);
    }

    /** An ADDRESS in the bytes from - to, into readNet. */
    private boolean readAddress(int from, int to) {
        int at = from;
        int parts = 0;
        readNet = 0;
        for (int i = from; i <= to; i++) {
            if (i == to || tape.u8(i) == '.') {
                int v = readNumber(at, i, 255);
                if (v < 0 || parts > 3) {
                    return false;
                }
                readNet = readNet << 8 | v;
                parts++;
                at = i + 1;
            }
        }
        return parts == 4;
    }

    private boolean addressWord(int k) {
        return k >= 0 && k < words && k < wordAt.length && readAddress(wordAt[k], wordAt[k] + wordLen[k]);
    }

    /** A NET as a WORD, into readNet and readBits. */
    private boolean netWord(int k) {
        if (k < 0 || k >= words || k >= wordAt.length) {
            return false;
        }
        int end = wordAt[k] + wordLen[k];
        int slash = wordAt[k];
        while (slash < end && tape.u8(slash) != '/') {
            slash++;
        }
        readBits = readNumber(slash + 1, end, 32);
        return readBits >= 0 && readAddress(wordAt[k], slash) && isNet(readNet, readBits);
    }

    /** Reads the TAPE as a text of a kind into readRows and readZones: 0, or -1 less the LINE not right. */
    private int readText(int kind) {
        readRows.count = 0;
        readZones.count = 0;
        int at = 0;
        int lines = 0;
        while (at < tape.len) {
            int end = splitLine(at);
            boolean right = words == 0;
            if (words > 0) {
                right = kind == 0 ? filterLine() : kind == 1 ? policyLine() : zonesLine();
            }
            if (!right) {
                return -1 - lines;
            }
            lines++;
            at = end + 1;
        }
        return 0;
    }

    private int newRow(int most) {
        if (readRows.count >= most) {
            return -1;
        }
        int r = readRows.insert(readRows.count);
        for (int c = 1; c < readRows.width; c++) {
            readRows.put(r, c, -1);
        }
        return r;
    }

    /** Puts a number that is told at most once: whether it is right, and was not told yet. */
    private boolean putOnce(int r, int c, int v) {
        if (v < 0 || readRows.get(r, c) >= 0) {
            return false;
        }
        readRows.put(r, c, v);
        return true;
    }

    /** A LINE of FILTER: what, PROTOCOL, FROM, TO (ADDRESS and BITS), ports, AT, KNOWN. */
    private boolean filterLine() {
        int verb = isWord(0, "pass") ? 0 : isWord(0, "drop") ? DROP : isWord(0, "refuse") ? REFUSE : -1;
        int r = verb < 0 ? -1 : newRow(12);
        boolean right = r >= 0;
        readRows.put(r, 0, verb);
        int k = 1;
        while (k < words && right) {
            if (isWord(k, "known")) {
                right = putOnce(r, 9, 1);
                k++;
            } else if (isWord(k, "from") || isWord(k, "to")) {
                int c = isWord(k, "from") ? 2 : 4;
                right = netWord(k + 1) && putOnce(r, c + 1, readBits);
                readRows.put(r, c, readNet);
                k += 2;
            } else if (isWord(k, "port")) {
                int low = numberWord(k + 1, 65535);
                int high = numberWord(k + 2, 65535);
                right = low >= 0 && low <= high && putOnce(r, 6, low) && putOnce(r, 7, high);
                k += 3;
            } else if (isWord(k, "proto")) {
                right = putOnce(r, 1, numberWord(k + 1, 255));
                k += 2;
            } else {
                right = isWord(k, "at") && putOnce(r, 8, numberWord(k + 1, 3));
                k += 2;
            }
        }
        if (readRows.get(r, 9) < 0) {
            readRows.put(r, 9, 0);
        }
        return right;
    }

    /** A LINE of POLICY, as Outer reads it. */
    private boolean policyLine() {
        int way = isWord(0, "in") ? 0 : isWord(0, "out") ? 1 : -1;
        int r = way < 0 ? -1 : newRow(16);
        if (r < 0) {
            return false;
        }
        readRows.put(r, 0, way);
        int k = 1;
        boolean right = true;
        int verdict = -1;
        while (k < words && right && verdict < 0) {
            verdict = isWord(k, "accept") ? 0 : isWord(k, "refuse") ? 1 : isWord(k, "go") ? 2 : -1;
            if (verdict >= 0) {
                k++;
            } else if (isWord(k, "net")) {
                int low = numberWord(k + 2, 32);
                int high = numberWord(k + 3, 32);
                right = netWord(k + 1) && readBits <= low && low <= high && putOnce(r, 2, 1);
                readRows.put(r, 3, readNet);
                readRows.put(r, 4, readBits);
                readRows.put(r, 5, low);
                readRows.put(r, 6, high);
                k += 4;
            } else {
                int c = isWord(k, "peer") ? 1 : isWord(k, "has") ? 7 : isWord(k, "first") ? 8
                        : isWord(k, "last") ? 9 : isWord(k, "mark") ? 10 : -1;
                right = c > 0 && putOnce(r, c, numberWord(k + 1, c == 1 ? 3 : 65535));
                k += 2;
            }
        }
        readRows.put(r, 11, verdict);
        while (k < words && right && verdict >= 0) {
            int c = isWord(k, "degree") ? 12 : isWord(k, "med") ? 13 : isWord(k, "tag") ? 14
                    : isWord(k, "prepend") ? 15 : -1;
            int v = numberWord(k + 1, c == 15 ? 4 : 65535);
            right = c > 0 && (c < 15 || v > 0) && putOnce(r, c, v);
            k += 2;
        }
        if (readRows.get(r, 15) < 0) {
            readRows.put(r, 15, 0);
        }
        return right && verdict >= 0;
    }

    /** A WORD as a NAME into a row, from a column on: how many LABELS; -1 if it is none. */
    private int nameWord(int k, boolean star, Table t, int r, int c) {
        if (k < 0 || k >= words || k >= wordAt.length) {
            return -1;
        }
        int many = Names.readName(tape, wordAt[k], wordLen[k], star, readName);
        for (int i = 0; i < 4 && many >= 0; i++) {
            t.put(r, c + i, readName[i]);
        }
        return many;
    }

    /** A LINE of ZONES: a ZONE, or a ROW of the last one (told apart by how many WORDS: "zone" is a NAME, too). */
    private boolean zonesLine() {
        if (words == 3) {
            return isWord(0, "zone") && zoneLine();
        }
        return words == 4 && zoneRow();
    }

    private boolean zoneLine() {
        int z = readZones.insert(readZones.count);
        int life = numberWord(2, 500);
        if (z < 0 || life < 1 || nameWord(1, false, readZones, z, 0) < 0) {
            return false;
        }
        readZones.put(z, 4, life);
        for (int i = 0; i < z; i++) {
            if (Names.same(readZones, i, 0, readZones, z, 0)) {
                return false;
            }
        }
        return true;
    }

    /** NAME, LIFE, KIND, VALUE. */
    private boolean zoneRow() {
        int z = readZones.count - 1;
        int life = numberWord(1, 500);
        int r = z < 0 || life < 1 ? -1 : newRow(24);
        if (r < 0 || nameWord(0, true, readRows, r, 0) < 0 || !Names.isIn(readRows, r, 0, readZones, z, 0)) {
            return false;
        }
        readRows.put(r, 4, z);
        readRows.put(r, 6, life);
        for (int c = 7; c < 11; c++) {
            readRows.put(r, c, 0);
        }
        if (isWord(2, "a")) {
            readRows.put(r, 5, 1);
            boolean right = addressWord(3);
            readRows.put(r, 7, readNet);
            return right;
        }
        if (isWord(2, "text")) {
            readRows.put(r, 5, 4);
            readRows.put(r, 7, numberWord(3, 65535));
            return numberWord(3, 65535) >= 0;
        }
        readRows.put(r, 5, isWord(2, "ns") ? 2 : 3);
        return (isWord(2, "ns") || isWord(2, "alias")) && nameWord(3, false, readRows, r, 7) >= 0;
    }

    // THE FACE

    private static final int[] LOOK_WIDTH = {4, 3, 5, 5, 4, 5, 5, 8, 4, 3, 6, 5, 3, 5, 3, 8};

    public InternetHouse() {
        w.chance = 0;
    }

    private Node nodeOf(int n) {
        Node x = w.nodeAt(n);
        if (x == null) {
            throw new NoSuchElementException("no such NODE");
        }
        return x;
    }

    private Port portOf(int p) {
        Port x = w.portAt(p);
        if (x == null) {
            throw new NoSuchElementException("no such PORT");
        }
        return x;
    }

    private Socket socketOf(int s) {
        Socket x = w.socketAt(s);
        if (x == null) {
            throw new NoSuchElementException("no such SOCKET");
        }
        return x;
    }

    private void lineOf(int line) {
        if (line < 0 || line >= w.lines.count) {
            throw new NoSuchElementException("no such LINE");
        }
    }

    private static void argument(boolean right) {
        if (!right) {
            throw new IllegalArgumentException("a number is not as said");
        }
    }

    private static void allow(boolean right) {
        if (!right) {
            throw new IllegalStateException("not now");
        }
    }

    private static boolean within(int v, int least, int most) {
        return v >= least && v <= most;
    }

    public int feed(int a, int b, int c, int d, int e) throws IllegalStateException {
        allow(tape.len + 20 <= 512);
        tape.a32(a);
        tape.a32(b);
        tape.a32(c);
        tape.a32(d);
        tape.a32(e);
        return tape.len;
    }

    public int end(int n) throws IllegalArgumentException {
        argument(within(n, 0, tape.len));
        tape.len = n;
        return n;
    }

    public int begin(int seed) {
        int units = w.time;
        w.beginAnew(seed);
        tape.len = 0;
        out.len = 0;
        return units;
    }

    public int node(int kind) throws IllegalArgumentException, IllegalStateException {
        argument(within(kind, 0, 2));
        allow(w.nodeCount < 12);
        return w.addNode(kind);
    }

    public int line(int p, int q, int delay, int rate, int size)
            throws NoSuchElementException, IllegalArgumentException, IllegalStateException {
        Port x = portOf(p);
        Port y = portOf(q);
        argument(x.n != y.n && within(delay, 1, 20) && within(rate, 8, 255) && within(size, 60, 148));
        allow(x.line < 0 && y.line < 0 && w.lines.count < 20);
        int l = w.lines.insert(w.lines.count);
        w.lines.put(l, World.DELAY, delay);
        w.lines.put(l, World.RATE, rate);
        w.lines.put(l, World.SIZE, size);
        w.lines.put(l, World.ENDS, p);
        w.lines.put(l, World.ENDS + 1, q);
        x.line = l;
        x.whole = true;
        x.far = q;
        y.line = l;
        y.whole = true;
        y.far = p;
        x.n.stale = true;
        y.n.stale = true;
        return l;
    }

    public int quality(int line, int what, int v) throws NoSuchElementException, IllegalArgumentException {
        lineOf(line);
        argument(within(what, 0, 6));
        boolean right = within(v, 0, 255);
        if (what == World.DELAY) {
            right = within(v, 1, 20);
        } else if (what == World.RATE) {
            right = within(v, 8, 255);
        } else if (what == World.SIZE) {
            right = within(v, 60, 148);
        } else if (what == World.CUT) {
            right = within(v, 0, 1);
        }
        argument(right);
        int was = w.lines.get(line, what);
        w.lines.put(line, what, v);
        if (what == World.CUT && was != v) {
            w.dropCopies(line);
            for (int i = 0; i < 2; i++) {
                Port p = w.portAt(w.lines.get(line, World.ENDS + i));
                if (p != null) {
                    p.busy = 0;
                    p.whole = v == 0;
                    p.n.stale = true;
                }
            }
        }
        return was;
    }

    public int address(int p, int address, int bits)
            throws NoSuchElementException, IllegalArgumentException, IllegalStateException {
        Port x = portOf(p);
        argument(within(bits, 0, 31));
        if (bits > 0) {
            argument(address != 0 && !isMany(address));
            for (int i = 0; i < 4; i++) {
                Port q = x.n.ports[i];
                argument(q == x || q.bits == 0
                        || !inNet(address, q.address, q.bits) && !inNet(q.address, address, bits));
            }
        }
        allow(x.n.kind != BRIDGE && x.borrow[Port.ON] == 0 && x.lend[1] == 0);
        x.address = bits == 0 ? 0 : address;
        x.bits = bits;
        x.forget();
        x.n.stale = true;
        return 1;
    }

    public int route(int n, int net, int bits, int next, int cost)
            throws NoSuchElementException, IllegalArgumentException, IllegalStateException {
        Node x = nodeOf(n);
        argument(isNet(net, bits) && within(cost, -1, 255));
        allow(x.kind != BRIDGE && (cost < 0 || x.ways.fixed.count < 8));
        if (cost < 0) {
            x.ways.dropFixed(net, bits, next);
        } else {
            x.ways.addFixed(net, bits, next, cost, -1);
        }
        x.stale = true;
        return x.ways.fixed.count;
    }

    public int set(int n, int what, int a, int b, int c)
            throws NoSuchElementException, IllegalArgumentException, IllegalStateException {
        Node x = nodeOf(n);
        argument(within(what, 0, 16) && rightNumbers(what, a, b, c));
        boolean kindOk = what == 1 ? x.kind == BRIDGE : what == 14 ? x.kind == HOST
                : what < 5 || (what < 13 ? x.kind == ROUTER : x.kind != BRIDGE);
        allow(kindOk && hasRoom(x, what, a, b, c));
        x.stale = true;
        if (what < 5) {
            setPlain(x, what, a, b, c);
        } else if (what < 13) {
            setRouter(x, what, a, b, c);
        } else if (what == 13) {
            x.ports[a & 3].lending(b, c / 1000, c % 1000);
        } else if (what == 14) {
            x.ports[a & 3].borrowing(b == 1);
        } else if (what == 15) {
            x.names.root = a;
            if (a == 0) {
                x.names.clear();
            }
        } else {
            setGroup(x, a, b == 1);
        }
        return 1;
    }

    private static boolean rightNumbers(int what, int a, int b, int c) {
        switch (what) {
            case 0: return within(a, 0, 1);
            case 1: return within(a, 0, 255);
            case 2: return within(a, 0, 3) && within(b, 1, 255);
            case 3: return within(a, 0, 3) && within(b, 0, 2) && within(c, 1, 255);
            case 4: return within(a, 0, 3) && within(b, 0, 255) && within(c, 1, 1000);
            case 5: return within(a, 0, 1);
            case 6: return within(a, 0, 1);
            case 7: return within(a, 0, 3) && within(b, 0, 3);
            case 8: return within(a, 0, 65535);
            case 9: return a != 0 && !isMany(a) && within(b, 0, 65535);
            case 10: return isNet(a, b) && within(c, 0, 1);
            case 11: return within(a, -1, 3);
            case 12: return within(a, 0, 1) && !isMany(b) && within(c, 0, 65535);
            case 13: return within(a, 0, 3) && within(c, 0, 16999) && (c < 1000 || within(c % 1000, 10, 500));
            case 14: return within(a, 0, 3) && within(b, 0, 1);
            case 15: return !isMany(a);
            default: return isGroup(a) && within(b, 0, 1);
        }
    }

    /** Whether what is to be set finds room, and a PORT that may LEND or BORROW. */
    private static boolean hasRoom(Node x, int what, int a, int b, int c) {
        Port p = x.ports[a & 3];
        switch (what) {
            case 9: return b == 0 || x.outer.peers.find(0, a) >= 0 || x.outer.peers.count < 4;
            case 10: return c == 0 || x.outer.nets.findPair(0, a, b) >= 0 || x.outer.nets.count < 6;
            case 13: return c < 1000 || mayLend(p, b, c / 1000);
            case 14: return p.borrow[Port.ON] == 1 || p.bits == 0 && p.lend[1] == 0;
            case 16: return b == 0 || x.groups.find(0, a) >= 0 || x.groups.count < 4;
            default: return true;
        }
    }

    private static boolean mayLend(Port p, int from, int many) {
        if (p.bits == 0 || p.borrow[Port.ON] == 1) {
            return false;
        }
        for (int i = 0; i < many; i++) {
            if (from + i == p.address || !inNet(from + i, p.address, p.bits)) {
                return false;
            }
        }
        return true;
    }

    private static void setPlain(Node x, int what, int a, int b, int c) {
        Port p = x.ports[a & 3];
        if (what == 0) {
            x.setUp(a == 1);
        } else if (what == 1) {
            x.bridge.rank = a;
        } else if (what == 2) {
            p.cost = b;
        } else if (what == 3) {
            p.sched[b % 3] = c;
            for (int i = 0; i < 4; i++) {
                p.sched[Port.DEFICIT + i] = 0;
            }
        } else {
            p.sched[Port.FILL] = b;
            p.sched[Port.BUCKET] = c;
            p.sched[Port.TOKENS] = c;
        }
    }

    private static void setRouter(Node x, int what, int a, int b, int c) {
        if (what == 5) {
            x.ways.turn(a == 1);
        } else if (what == 6) {
            x.link.turn(a == 1);
        } else if (what == 7) {
            x.ports[a & 3].area = b;
            x.link.areaSet(a);
        } else if (what == 8) {
            x.outer.setSystem(a);
        } else if (what == 9) {
            x.outer.setPeer(a, b);
        } else if (what == 10) {
            int r = x.outer.nets.findPair(0, a, b);
            if (c == 0) {
                x.outer.nets.remove(r);
            } else if (r < 0) {
                r = x.outer.nets.insert(x.outer.nets.count);
                x.outer.nets.put(r, 0, a);
                x.outer.nets.put(r, 1, b);
            }
        } else if (what == 11) {
            x.guard.outside = a;
            x.guard.pairs.count = 0;
        } else {
            x.guard.setTunnel(a, b, c);
        }
    }

    private static void setGroup(Node x, int group, boolean in) {
        int r = x.groups.find(0, group);
        if (!in) {
            x.groups.remove(r);
        } else if (r < 0) {
            x.groups.put(x.groups.insert(x.groups.count), 0, group);
        }
    }

    public int load(int n, int kind) throws NoSuchElementException, IllegalArgumentException, IllegalStateException {
        Node x = nodeOf(n);
        argument(within(kind, 0, 2));
        allow(x.kind != BRIDGE && (kind != 1 || x.kind == ROUTER));
        int wrong = readText(kind);
        tape.len = 0;
        if (wrong < 0) {
            return wrong;
        }
        if (kind == 0) {
            x.guard.rules.become(readRows);
        } else if (kind == 1) {
            x.outer.policy.become(readRows);
        } else {
            x.names.zones.become(readZones);
            x.names.rows.become(readRows);
        }
        return readRows.count;
    }

    public int run(int n) throws IllegalArgumentException {
        argument(within(n, 1, 40));
        w.make(World.UNIT, -1).x = n;
        w.drain();
        return w.time;
    }

    public int inject(int p) throws NoSuchElementException, IllegalStateException {
        Port x = portOf(p);
        allow(x.n.up);
        int many = Math.min(160, tape.len);
        Buf f = w.make(World.FRAME, x.n.num);
        f.append(tape, 0, many);
        f.port = x.index();
        tape.len = 0;
        w.drain();
        return many;
    }

    public int seen(int p, int i, int k) throws NoSuchElementException {
        Port x = portOf(p);
        Buf f = within(i, 0, 3) ? x.seenOnes[i] : null;
        if (f == null || !within(k, -2, f.len - 1)) {
            throw new NoSuchElementException("no such FRAME or byte");
        }
        return k == -2 ? f.x : k == -1 ? f.len : f.u8(k);
    }

    public int count(int n, int what) throws NoSuchElementException, IllegalArgumentException {
        Node x = nodeOf(n);
        argument(within(what, 0, 9));
        return x.counts[what];
    }

    public int bridge(int p, int what)
            throws NoSuchElementException, IllegalArgumentException, IllegalStateException {
        Port x = portOf(p);
        argument(within(what, 0, 15));
        allow(x.n.kind == BRIDGE);
        Bridge g = x.n.bridge;
        int i = x.index();
        switch (what) {
            case 0: return g.role[i];
            case 1: return g.forwards(i) ? 1 : 0;
            case 2: return g.root;
            case 3: return g.rootCost;
            default: return g.learned.get(what - 4, 1) == i ? g.learned.get(what - 4, 0) : 0;
        }
    }

    public long way(int n, int from, int to) throws NoSuchElementException, IllegalStateException {
        Node x = nodeOf(n);
        allow(x.kind != BRIDGE);
        freshNode(x);
        if (!x.ways.find(from, to, 4)) {
            return -1;
        }
        return 256 * un(x.ways.next) + (x.ways.port < 0 ? 200 + x.ways.next : 4 * n + x.ways.port);
    }

    private static void freshNode(Node x) {
        if (x.stale) {
            x.freshen();
        }
    }

    public int echo(int n, int to, int bytes, int hops)
            throws NoSuchElementException, IllegalArgumentException, IllegalStateException {
        Node x = nodeOf(n);
        argument(within(bytes, 0, 100) && within(hops, 1, 255));
        allow(x.kind != BRIDGE && x.up);
        int number = x.sendEcho(to, bytes, hops);
        w.drain();
        return number;
    }

    public int socket(int n, int kind, int port)
            throws NoSuchElementException, IllegalArgumentException, IllegalStateException {
        Node x = nodeOf(n);
        argument(within(kind, 0, 2) && within(port, 0, 65535));
        allow(x.kind != BRIDGE && x.up && w.socketCount < 32);
        int mine = port;
        if (port == 0) {
            mine = 50000;
            while (mine < 50100 && portUsed(x, kind, mine, true)) {
                mine++;
            }
        }
        allow(!portUsed(x, kind, mine, port == 0));
        Socket s = w.addSocket(x, kind, mine);
        return s == null ? -1 : s.num;
    }

    /** Whether a SOCKET has a port; those that came of one that LISTENS are looked at or not. */
    private boolean portUsed(Node x, int kind, int port, boolean offspring) {
        for (int i = 0; i < w.socketCount; i++) {
            Socket s = w.sockets[i];
            boolean meant = s.n == x && (s.kind == 0) == (kind == 0) && (offspring || s.parent < 0);
            if (meant && s.port == port && s.holdsPort()) {
                return true;
            }
        }
        return false;
    }

    public int connect(int s, int address, int port)
            throws NoSuchElementException, IllegalArgumentException, IllegalStateException {
        Socket x = socketOf(s);
        argument(within(port, 1, 65535) && (x.kind != 1 || !isMany(address)));
        allow(x.kind != 2 && (x.kind == 0 ? x.state != 0 : !x.used) && x.n.up);
        if (x.kind == 0) {
            x.far = address;
            x.farPort = port;
            x.used = true;
        } else {
            freshNode(x.n);
            x.callUp(address, port);
            w.drain();
        }
        return 1;
    }

    public int accept(int s) throws NoSuchElementException, IllegalStateException {
        Socket x = socketOf(s);
        allow(x.state == Socket.LISTEN);
        for (int i = 0; i < w.socketCount; i++) {
            Socket y = w.sockets[i];
            boolean open = y.state == Socket.OPEN || y.state == Socket.CLOSE_WAIT;
            if (y.parent == s && !y.accepted && open) {
                y.accepted = true;
                return i;
            }
        }
        return -1;
    }

    public int write(int s) throws NoSuchElementException, IllegalArgumentException, IllegalStateException {
        Socket x = socketOf(s);
        argument(x.kind != 0 || tape.len <= 100);
        if (x.kind == 0) {
            allow(x.state != 0 && x.used);
            int many = tape.len;
            x.sendDatagram(tape);
            tape.len = 0;
            w.drain();
            return many;
        }
        allow(within(x.state, Socket.SYN_SENT, Socket.OPEN) || x.state == Socket.CLOSE_WAIT);
        int many = x.writeFrom(tape);
        w.drain();
        return many;
    }

    public int read(int s, int n) throws NoSuchElementException, IllegalArgumentException, IllegalStateException {
        Socket x = socketOf(s);
        argument(within(n, 1, 200));
        allow(x.kind != 2);
        if (x.kind != 0) {
            int many = x.readTo(out, n);
            w.drain();
            return many;
        }
        Buf b = x.box;
        if (b == null) {
            return x.state == 0 ? -3 : -1;
        }
        out.len = 0;
        out.append(b, 0, b.len);
        x.box = b.next;
        x.boxed--;
        w.release(b);
        return out.len;
    }

    public int close(int s, int how) throws NoSuchElementException, IllegalArgumentException {
        Socket x = socketOf(s);
        argument(within(how, 0, 1));
        for (int i = 0; i < w.socketCount && x.state == Socket.LISTEN; i++) {
            if (w.sockets[i].parent == s && !w.sockets[i].accepted) {
                w.sockets[i].closeBy(1);
            }
        }
        x.closeBy(how);
        w.drain();
        return x.state;
    }

    public int state(int s, int what) throws NoSuchElementException, IllegalArgumentException {
        Socket x = socketOf(s);
        argument(within(what, 0, 16));
        switch (what) {
            case 0: return x.state;
            case 1: return x.failure;
            case 2: return x.kind == 0 ? x.boxed : x.v[Socket.UNREAD];
            case 10: return x.port;
            case 11: return x.far;
            case 12: return x.farPort;
            case 13: return x.n.num;
            default: return x.kind == 0 ? 0 : streamState(x, what);
        }
    }

    private static int streamState(Socket x, int what) {
        switch (what) {
            case 3: return x.v[Socket.ROW_LEN];
            case 4: return x.v[Socket.CARE];
            case 5: return x.v[Socket.EDGE];
            case 6: return x.v[Socket.WAIT];
            case 7: return x.v[Socket.S];
            case 8: return x.v[Socket.FAR_WINDOW];
            case 9: return x.v[Socket.NEXT] - x.v[Socket.UNA];
            case 14: return x.v[Socket.NEXT] - x.v[Socket.FIRST];
            case 15: return x.v[Socket.TRIES];
            default: return x.v[Socket.DUPS];
        }
    }

    public int ask(int n, int kind) throws NoSuchElementException, IllegalArgumentException, IllegalStateException {
        Node x = nodeOf(n);
        argument(within(kind, 1, 4) && Names.readName(tape, 0, tape.len, false, readName) >= 0);
        allow(x.kind != BRIDGE && x.names.root != 0 && x.up);
        int busy = 0;
        for (int q = 0; q < 4; q++) {
            busy += x.names.questions.get(q, Names.STATE) == 1 ? 1 : 0;
        }
        allow(busy < 4);
        for (int i = 0; i < 4; i++) {
            x.names.sought.put(0, i, readName[i]);
        }
        tape.len = 0;
        int q = x.names.start(kind);
        w.drain();
        return q;
    }

    public int answer(int n, int q, int i) throws NoSuchElementException {
        Node x = nodeOf(n);
        if (x.kind == BRIDGE || !within(q, 0, 3)) {
            throw new NoSuchElementException("no such QUESTION");
        }
        int now = x.names.questions.get(q, Names.STATE);
        if (now != 2) {
            return now == 1 ? -1 : -2;
        }
        int code = x.names.questions.get(q, Names.CODE);
        if (code != 0) {
            out.len = 0;
            return code;
        }
        return x.names.value(q, i, out) ? 0 : -3;
    }

    public long look(int n, int what, int i, int k)
            throws NoSuchElementException, IllegalArgumentException, IllegalStateException {
        Node x = nodeOf(n);
        argument(within(what, 0, 15));
        allow(x.kind != BRIDGE);
        freshNode(x);
        x.pathSize(0);
        x.guard.dropOldPairs();
        if (!within(k, 0, LOOK_WIDTH[what] - 1) || i < 0) {
            throw new NoSuchElementException("no such number");
        }
        switch (what) {
            case 0: return lookFound(x, i, k);
            case 1: return lookAddress(x, i, k);
            case 3: return lookBook(x, i, k);
            case 6: return lookPeer(x, i, k);
            case 7: return lookChosen(x, i, k);
            case 8: return lookLent(x, i, k);
            case 9: return lookCache(x, i, k);
            case 15: return lookOn(x, i, k);
            default: return cell(tableOf(x, what), i, columnOf(what, k));
        }
    }

    private static Table tableOf(Node x, int what) {
        switch (what) {
            case 2: return x.ways.rows;
            case 4: return x.link.neighbours;
            case 5: return x.link.foundWays;
            case 10: return x.guard.flows;
            case 11: return x.guard.pairs;
            case 12: return x.members;
            case 13: return x.echoed;
            default: return x.paths;
        }
    }

    private static int columnOf(int what, int k) {
        if (what == 4 && k == 3) {
            return 4;
        }
        return what == 5 && k > 1 ? k + 1 : k;
    }

    private static long cell(Table t, int r, int c) {
        if (r < 0 || r >= t.count) {
            throw new NoSuchElementException("no such ROW");
        }
        return t.at(r, c);
    }

    private static long lookFound(Node x, int i, int k) {
        int r = i;
        for (int p = 0; p < 4; p++) {
            if (r < x.ports[p].found.count) {
                return k == 0 ? p : x.ports[p].found.at(r, k - 1);
            }
            r -= x.ports[p].found.count;
        }
        throw new NoSuchElementException("no such ROW");
    }

    private static long lookAddress(Node x, int i, int k) {
        int r = i;
        for (int p = 0; p < 4; p++) {
            if (x.ports[p].bits > 0) {
                if (r == 0) {
                    return k == 0 ? p : k == 1 ? x.ports[p].address : x.ports[p].bits;
                }
                r--;
            }
        }
        throw new NoSuchElementException("no such ROW");
    }

    private static long lookBook(Node x, int i, int k) {
        int r = i;
        for (int a = 0; a < 48; a++) {
            Buf b = x.link.rowAt(a / 12, a % 12);
            if (b != null) {
                if (r == 0) {
                    int links = b.u8(4);
                    return k == 0 ? a / 12 : k == 1 ? a % 12 : k == 2 ? b.u32(0) : k == 3 ? links : b.u8(5 + 2 * links);
                }
                r--;
            }
        }
        throw new NoSuchElementException("no such ROW");
    }

    private static long lookPeer(Node x, int i, int k) {
        Outer o = x.outer;
        long who = cell(o.peers, i, 0);
        if (k < 3) {
            return o.peers.at(i, k);
        }
        return o.manyOf(k == 3 ? o.heard : o.told, (int) who);
    }

    private static long lookChosen(Node x, int i, int k) {
        Table t = x.outer.chosen;
        long net = cell(t, i, Outer.NET);
        switch (k) {
            case 0: return net;
            case 1: return t.at(i, Outer.BITS);
            case 2: return t.at(i, Outer.NEXT);
            case 3: return t.at(i, Outer.DEGREE);
            case 4: return t.at(i, Outer.MANY_SYSTEMS);
            case 5: return t.at(i, Outer.MANY_SYSTEMS) == 0 ? 0 : t.at(i, Outer.SYSTEMS);
            case 6: return t.at(i, Outer.MED);
            default: return t.at(i, Outer.MARK);
        }
    }

    private static long lookLent(Node x, int i, int k) {
        int r = i;
        for (int p = 0; p < 4; p++) {
            Port q = x.ports[p];
            for (int l = 0; l < q.lent.count; l++) {
                if (q.hasNow(l)) {
                    if (r == 0) {
                        return k == 0 ? p : k == 1 ? q.lend[0] + l : q.lent.at(l, k == 2 ? Port.HAS : Port.TILL);
                    }
                    r--;
                }
            }
        }
        throw new NoSuchElementException("no such ROW");
    }

    private static long lookCache(Node x, int i, int k) {
        Table t = x.names.cache;
        long kind = cell(t, i, 4);
        if (k == 0) {
            return kind;
        }
        if (k == 2) {
            return t.at(i, 5);
        }
        return kind == 2 || kind == 3 ? Names.lengthOf(t, i, 6) : t.at(i, 6);
    }

    private static long lookOn(Node x, int i, int k) {
        if (i > 0) {
            throw new NoSuchElementException("no such ROW");
        }
        switch (k) {
            case 0: return x.up ? 1 : 0;
            case 1: return x.ways.on ? 1 : 0;
            case 2: return x.link.on ? 1 : 0;
            case 3: return x.outer.system;
            case 4: return x.names.root;
            case 5: return x.counts[Node.ERRORS];
            case 6: return x.counts[Node.NAME];
            default: return x.guard.outside;
        }
    }

    public int map(int what, int a, int b) throws NoSuchElementException, IllegalArgumentException {
        argument(within(what, 0, 3));
        if (what == 0) {
            if (nodeOf(a).kind == BRIDGE) {
                throw new NoSuchElementException("a BRIDGE");
            }
            return w.hops(a, b);
        }
        if (what == 1) {
            nodeOf(a);
            nodeOf(b);
            return w.distance(a, b);
        }
        return what == 2 ? w.agree() : w.loops();
    }

    public int capture(int line, int what) throws NoSuchElementException, IllegalArgumentException {
        lineOf(line);
        argument(within(what, 0, 2));
        if (what < 2) {
            w.lines.put(line, World.CAPTURE, what);
        }
        if (what == 1) {
            w.dropCaptured(line);
        }
        if (what == 2) {
            out.len = 0;
        }
        int many = 0;
        for (Buf c = w.captured[line]; c != null && many < 12; c = c.next) {
            many++;
            if (what == 2 && out.len + 6 + c.len <= 512 && out.x == 0) {
                out.a32(c.x);
                out.a8(c.y);
                out.a8(c.len);
                out.append(c, 0, c.len);
            } else {
                out.x = 1;
            }
        }
        out.x = 0;
        return many;
    }

    public int octet(int k) throws NoSuchElementException {
        if (!within(k, -1, out.len - 1)) {
            throw new NoSuchElementException("no such byte");
        }
        return k == -1 ? out.len : out.u8(k);
    }

    public int audit() {
        return 0;
    }
}
