import java.util.NoSuchElementException;

/** All that can be looked at of a house without changing it, as one text. */
final class Snapshot {
    private Snapshot() {
    }

    static String of(InternetHouse x) {
        StringBuilder s = new StringBuilder();
        for (int n = 0; n < 12; n++) {
            node(x, n, s);
        }
        for (int p = 0; p < 48; p++) {
            port(x, p, s);
        }
        for (int i = 0; i < 32; i++) {
            socket(x, i, s);
        }
        s.append("\nmap ").append(x.map(2, 0, 0)).append(' ').append(x.map(3, 0, 0));
        s.append("\nTAPE ").append(Wire.tape(x)).append(" OUT ").append(Due.out(x)).append(" audit ").append(x.audit());
        return s.toString();
    }

    private static void node(InternetHouse x, int n, StringBuilder s) {
        try {
            s.append("\nNODE ").append(n);
            for (int k = 0; k < 10; k++) {
                s.append(' ').append(x.count(n, k));
            }
            for (int what = 0; what < 16; what++) {
                rows(x, n, what, s);
            }
            int[] to = {-1, 0, 1, 0x0A000001, 0x0A000002, 0x0A000102, 0x63000001, 0xE0000005};
            for (int t : to) {
                s.append(' ').append(x.way(n, 7, t)).append('/').append(x.map(0, n, t)).append('/').append(x.map(1, n, 1));
            }
        } catch (NoSuchElementException | IllegalStateException e) {
            s.append(" -");
        }
    }

    private static void rows(InternetHouse x, int n, int what, StringBuilder s) {
        for (int i = 0; i < 3000; i++) {
            for (int k = 0; k < 8; k++) {
                try {
                    s.append(' ').append(x.look(n, what, i, k));
                } catch (NoSuchElementException e) {
                    if (k == 0) {
                        return;
                    }
                    break;
                }
            }
        }
    }

    private static void port(InternetHouse x, int p, StringBuilder s) {
        s.append("\nPORT ").append(p);
        for (int i = 0; i < 4; i++) {
            try {
                s.append(' ').append(x.seen(p, i, -2)).append(java.util.Arrays.toString(Wire.sent(x, p, i)));
            } catch (NoSuchElementException e) {
                break;
            }
        }
        for (int what = 0; what < 16; what++) {
            try {
                s.append(' ').append(x.bridge(p, what));
            } catch (NoSuchElementException | IllegalStateException e) {
                return;
            }
        }
    }

    private static void socket(InternetHouse x, int i, StringBuilder s) {
        for (int what = 0; what < 17; what++) {
            try {
                s.append(what == 0 ? "\nSOCKET " : " ").append(x.state(i, what));
            } catch (NoSuchElementException e) {
                return;
            }
        }
    }
}
