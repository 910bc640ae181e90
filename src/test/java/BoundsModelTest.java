import java.util.ArrayDeque;
import java.util.Random;

/** Which FRAME goes next, against a plain reckoning of ROWS, DEFICITS, TURN and TOKENS by the document's words. */
public final class BoundsModelTest {
    private final int[] quantum = {64, 64, 64};
    private final int[] deficit = new int[3];
    private int turn;
    private int fill;
    private int size;
    private int tokens;
    private final ArrayDeque<int[]>[] rows = rows();

    @SuppressWarnings("unchecked")
    private static ArrayDeque<int[]>[] rows() {
        ArrayDeque<int[]>[] r = new ArrayDeque[4];
        for (int c = 0; c < 4; c++) {
            r[c] = new ArrayDeque<>();
        }
        return r;
    }

    private boolean put(int cls, int length, int mark) {
        if (rows[cls].size() >= 8) {
            return false;
        }
        rows[cls].add(new int[] {length, mark});
        return true;
    }

    /** The mark of the FRAME that goes in a UNIT, -1 if none does. */
    private int next() {
        if (fill > 0) {
            tokens = Math.min(size, tokens + fill);
        }
        int[] d = deficit.clone();
        int t = turn;
        int cls = 3;
        if (rows[3].isEmpty()) {
            if (rows[0].isEmpty() && rows[1].isEmpty() && rows[2].isEmpty()) {
                return -1;
            }
            while (true) {
                if (rows[t].isEmpty()) {
                    d[t] = 0;
                } else if (rows[t].peek()[0] <= d[t]) {
                    d[t] -= rows[t].peek()[0];
                    cls = t;
                    break;
                }
                t = (t + 1) % 3;
                d[t] += quantum[t];
            }
        }
        int length = rows[cls].peek()[0];
        if (fill > 0) {
            if (tokens < length) {
                return -1;
            }
            tokens -= length;
        }
        if (cls < 3) {
            System.arraycopy(d, 0, deficit, 0, 3);
            turn = t;
        }
        return rows[cls].poll()[1];
    }

    private static void one(long seed) {
        Random r = new Random(seed);
        BoundsModelTest m = new BoundsModelTest();
        InternetHouse x = new InternetHouse();
        x.node(1);
        x.node(0);
        x.node(0);
        x.line(0, 4, 1, 255, 148);
        x.line(1, 8, 1, 255, 148);
        x.run(6);
        // a NOTICE of PORT 4 of HOST 1 keeps PORT 1 the ROOT PORT, so that no NOTICES of its own go there.
        int dropped = 0;
        int sent = 0;
        int mark = 0;
        StringBuilder want = new StringBuilder();
        StringBuilder got = new StringBuilder();
        for (int unit = 0; unit < 40; unit++) {
            Wire.frame(x, 1, Wire.notice(5, 0, 5, 1, 0));
            if (r.nextInt(6) == 0) {
                int c = r.nextInt(3);
                int q = 1 + r.nextInt(r.nextBoolean() ? 255 : 40);
                x.set(0, 3, 1, c, q);
                m.quantum[c] = q;
                m.turn = 0;
                java.util.Arrays.fill(m.deficit, 0);
            }
            if (r.nextInt(8) == 0) {
                m.fill = r.nextInt(3) == 0 ? 0 : 1 + r.nextInt(120);
                m.size = 1 + r.nextInt(200);
                m.tokens = m.size;
                x.set(0, 4, 1, m.fill, m.size);
            }
            for (int i = r.nextInt(4); i > 0; i--) {
                int cls = r.nextInt(8) == 0 ? 3 : r.nextInt(3);
                int length = 7 + r.nextInt(r.nextBoolean() ? 20 : 120);
                byte[] body = Due.join(Due.bytes(64 + cls, ++mark), new byte[length - 7]);
                Wire.frame(x, 0, Due.frame(200, 100, 3, body));
                dropped += m.put(cls, length, mark) ? 0 : 1;
            }
            int due = m.next();
            x.run(1);
            boolean went = sent > 0 || x.count(0, 0) > 0;
            int now = went && last(x) == unit + 7 ? x.seen(1, 0, 4) : -1;
            sent += now < 0 ? 0 : 1;
            want.append(due).append(' ');
            got.append(now).append(' ');
        }
        int d = dropped;
        Due.said("seed " + seed, got.toString(), want.toString());
        Due.is("seed " + seed + ": DROPPED", d, () -> x.count(0, 3));
    }

    /** The TIME of the latest FRAME that PORT 1 sent, if it is one of those that were put in. */
    private static int last(InternetHouse x) {
        return x.seen(1, 0, 2) == 3 ? x.seen(1, 0, -2) : -1;
    }

    public static void main(String[] args) {
        Due.sentence("Which goes next: the first of CLASS 3, if one waits. Else, if any waits: as long as none was found: has the CLASS of the TURN no FRAME, its DEFICIT becomes 0, and the TURN goes on (0, 1, 2, 0, ..); is its first FRAME longer than its DEFICIT, the TURN goes on; else this goes, and the DEFICIT is less by its length (the TURN stays). Whenever the TURN goes on to a CLASS its DEFICIT grows by its QUANTUM.");
        for (int i = 0; i < 40; i++) {
            one(i);
        }
        Due.end("BoundsModelTest");
    }
}
