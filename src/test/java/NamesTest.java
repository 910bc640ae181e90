/** Promises 26 and 27, ZONES, and LEASES (of promises 10 and 28). */
public final class NamesTest {
    private static final int A1 = Due.a(10, 0, 0, 1);
    private static final int A2 = Due.a(10, 0, 0, 2);
    private static final int A3 = Due.a(10, 0, 0, 3);

    /** HOSTS 1 to 3 around BRIDGE 0. */
    private static InternetHouse star() {
        InternetHouse x = new InternetHouse();
        x.node(1);
        for (int i = 1; i < 4; i++) {
            x.node(0);
            x.line(i - 1, 4 * i, 1, 255, 148);
        }
        x.run(6);
        return x;
    }

    private static InternetHouse servers() {
        InternetHouse x = star();
        x.address(4, A1, 24);
        x.address(8, A2, 24);
        x.address(12, A3, 24);
        Due.feed(x, "zone . 100\ncom 90 ns ns.com\nns.com 80 a 10.0.0.3\norg 70 ns ns.org\nwww.x 60 a 1.2.3.4\n"
            + "a.b.c 9 a 1.1.1.1\n*.w 7 text 5");
        x.load(2, 2);
        Due.feed(x, "zone com 50\nx.com 40 alias y.com\ny.com 30 a 1.2.3.4\ny.com 30 a 5.6.7.8\nl1.com 9 alias l2.com\n"
            + "l2.com 9 alias l1.com\n*.com 8 ns q.com\ncom 30 ns ns.com\nns.com 80 a 10.0.0.3");
        x.load(3, 2);
        x.set(1, 15, A2, 0, 0);
        return x;
    }

    private static long load(InternetHouse x, String text) {
        Due.feed(x, text);
        return x.load(1, 2);
    }

    private static void zoneTexts() {
        InternetHouse x = star();
        Due.is("a ZONE without ROWS", 0, () -> load(x, "zone . 1"));
        Due.is("all KINDS", 6, () -> load(x, "zone com 500\ncom 1 ns a.com\na.com 500 a 1.2.3.4\nb.com 1 alias a.com\n"
            + "c.com 1 text 65535\n*.com 1 a 0.0.0.0\n*.a-9.b.com 1 text 0"));
        Due.is("ROOT's *", 1, () -> load(x, "zone . 5\n* 1 text 5"));
        String[] bad = {
            "zone a.b.c.d.e 5", "zone com 0", "zone com 501", "zone com", "zone com 5 5", "zone . 5", "zone *.com 5", "zone com. 5",
            "a.com 1 a 1.2.3", "a.com 0 a 1.2.3.4", "a.com 501 a 1.2.3.4", "a.com 1 b 1.2.3.4", "a.com 1 text 65536", "abcdefghi 1 text 5",
            "a.com 1 ns *.com", "a..com 1 text 5", "a.*.com 1 text 5", "*a.com 1 text 5", "*.a.b.c.d 1 text 5", "A.com 1 text 5", "a 1 text",
        };
        for (String b : bad) {
            Due.is(b, -2, () -> load(x, "zone . 5\n" + b + "\nfoo"));
        }
        Due.is("not in the ZONE", -2, () -> load(x, "zone com 5\na.org 1 text 5"));
        Due.is("* not in the ZONE", -2, () -> load(x, "zone com 5\n* 1 text 5"));
        Due.is("ROW before a ZONE", -1, () -> load(x, "a.com 1 text 5"));
        Due.is("4 ZONES", -4, () -> load(x, "zone a 1\nzone b 1\nzone c 1\nzone d 1"));
        StringBuilder many = new StringBuilder("zone . 1\n");
        for (int i = 0; i < 24; i++) {
            many.append("a 1 text 5\n");
        }
        Due.is("24 ROWS", 24, () -> load(x, many.toString()));
        Due.is("25 ROWS", -26, () -> load(x, many + "a 1 text 5"));
    }

    private static void ask(InternetHouse x, String name, int kind, int want) {
        Due.feed(x, name);
        Due.is("ask " + name, want, () -> x.ask(1, kind));
    }

    private static void resolve() {
        InternetHouse x = servers();
        Due.feed(x, "x.com");
        Due.missing("NODE", () -> x.ask(4, 1));
        Due.argument("kind", () -> x.ask(1, 0));
        Due.argument("kind", () -> x.ask(1, 5));
        Due.state("does not RESOLVE", () -> x.ask(2, 1));
        Due.state("BRIDGE", () -> x.ask(0, 1));
        Due.is("none was asked", -2, () -> x.answer(1, 0, 0));
        Due.missing("QUESTION", () -> x.answer(1, 4, 0));
        Due.missing("NODE", () -> x.answer(4, 0, 0));
        Due.missing("BRIDGE", () -> x.answer(0, 0, 0));
        Due.is("asked", 0, () -> x.ask(1, 1));
        Due.is("under way", -1, () -> x.answer(1, 0, 0));
        Due.argument("TAPE is empty: no NAME", () -> x.ask(1, 1));
        x.run(40);
        x.run(20);
        Due.is("answered", 0, () -> x.answer(1, 0, 0));
        Due.outIs("first VALUE", x, "\1\2\3\4");
        Due.is("answered", 0, () -> x.answer(1, 0, 1));
        Due.outIs("second VALUE", x, "\5\6\7\b");
        Due.is("no third", -3, () -> x.answer(1, 0, 2));
        Due.is("OUT stays", 4, () -> x.octet(-1));
        Due.is("CACHE: KIND", 2, () -> x.look(1, 9, 0, 0));
        Due.is("VALUE of a NAME: its length", 6, () -> x.look(1, 9, 0, 1));
        Due.is("KIND", 1, () -> x.look(1, 9, 1, 0));
        Due.is("VALUE", A3, () -> x.look(1, 9, 1, 1));
        Due.is("ALIAS", 3, () -> x.look(1, 9, 2, 0));
        int sent = x.count(1, 0);
        ask(x, "x.com", 1, 0);
        Due.is("at once, from the CACHE", 0, () -> x.answer(1, 0, 0));
        ask(x, "com", 2, 0);
        Due.is("of the CACHE, too", 0, () -> x.answer(1, 0, 0));
        Due.outIs("a NAME", x, "ns.com");
        Due.is("nothing was sent", sent, () -> x.count(1, 0));
        ask(x, "a.b", 1, 0);
        ask(x, "b.c", 2, 1);
        ask(x, "zz", 4, 2);
        ask(x, "l1.com", 1, 3);
        Due.feed(x, "q");
        Due.state("4 are under way", () -> x.ask(1, 1));
        x.run(40);
        x.run(20);
        Due.is("no such NAME", 1, () -> x.answer(1, 0, 0));
        Due.is("OUT is empty", 0, () -> x.octet(-1));
        Due.is("one below it: no such KIND", 2, () -> x.answer(1, 1, 0));
        Due.is("no such NAME", 1, () -> x.answer(1, 2, 0));
        Due.is("ALIASES in a ring: FAILED", 3, () -> x.answer(1, 3, 0));
        x.end(0);
        ask(x, "h.w", 4, 0);
        ask(x, "g.w", 1, 1);
        ask(x, "any.com", 1, 2);
        ask(x, "f.org", 1, 3);
        x.run(40);
        x.run(20);
        Due.is("the ROOT is asked again and again", -1, () -> x.answer(1, 3, 0));
        x.run(40);
        x.run(20);
        Due.is("* tells", 0, () -> x.answer(1, 0, 0));
        Due.outIs("a number", x, "\0\0\0\5");
        Due.is("* has no such KIND", 2, () -> x.answer(1, 1, 0));
        Due.is("* of KIND 2 is no CUT: no such KIND", 2, () -> x.answer(1, 2, 0));
        Due.is("but not a 13th time", 3, () -> x.answer(1, 3, 0));
        sent = x.count(1, 0);
        ask(x, "g.w", 1, 0);
        Due.is("\"no\" is kept", 2, () -> x.answer(1, 0, 0));
        x.set(1, 15, 0, 0, 0);
        Due.is("gone", -2, () -> x.answer(1, 0, 0));
        Due.missing("CACHE is gone", () -> x.look(1, 9, 0, 0));
        x.set(1, 15, Due.a(10, 0, 0, 77), 0, 0);
        ask(x, "g.w", 1, 0);
        x.run(40);
        x.run(19);
        Due.is("under way", -1, () -> x.answer(1, 0, 0));
        x.run(1);
        Due.is("asked 4 times in vain", 3, () -> x.answer(1, 0, 0));
        Due.argument("ROOT", () -> x.set(1, 15, -1, 0, 0));
        x.set(1, 0, 0, 0, 0);
        Due.feed(x, "g.w");
        Due.state("down", () -> x.ask(1, 1));
    }

    /** ANSWERS that are too long for one PACKET, and a NODE without a ZONE for the NAME. */
    private static void fullAnswers() {
        InternetHouse x = star();
        x.address(4, A1, 24);
        x.address(8, A2, 24);
        StringBuilder text = new StringBuilder("zone a 100\n");
        for (int i = 0; i < 7; i++) {
            text.append("b.a 50 text ").append(i).append("\n");
        }
        for (int i = 0; i < 4; i++) {
            text.append("cccccccc.bbbbbbbb.aaaaaaaa.a 50 alias dddddddd.cccccccc.bbbbbbbb.aaaaaaa").append(i).append("\n");
        }
        Due.feed(x, text.toString());
        Due.is("ROWS", 11, () -> x.load(2, 2));
        x.set(1, 15, A2, 0, 0);
        ask(x, "b.a", 4, 0);
        ask(x, "cccccccc.bbbbbbbb.aaaaaaaa.a", 3, 1);
        ask(x, "z", 1, 2);
        x.run(40);
        Due.is("5 ROWS", 0, () -> x.answer(1, 0, 4));
        Due.outIs("the fifth", x, "\0\0\0\4");
        Due.is("not six", -3, () -> x.answer(1, 0, 5));
        // 5 bytes, then 4 + 28 + 36 each: one fits into 130.
        Due.is("one ROW of 68 bytes", 0, () -> x.answer(1, 1, 0));
        Due.is("not two", -3, () -> x.answer(1, 1, 1));
        Due.is("no ZONE: FAILED", 3, () -> x.answer(1, 2, 0));
    }

    private static void leases() {
        InternetHouse x = star();
        x.address(4, A1, 24);
        Due.argument("PORT", () -> x.set(1, 13, 4, A2, 2020));
        Due.argument("many", () -> x.set(1, 13, 0, A2, 17020));
        Due.argument("LIFE", () -> x.set(1, 13, 0, A2, 2009));
        Due.argument("LIFE", () -> x.set(1, 13, 0, A2, 2501));
        Due.state("not in its NET", () -> x.set(1, 13, 0, Due.a(10, 0, 0, 255), 2020));
        Due.state("its own", () -> x.set(1, 13, 0, Due.a(10, 0, 0, 0), 2020));
        Due.state("no ADDRESS", () -> x.set(2, 13, 0, A2, 2020));
        Due.state("BRIDGE", () -> x.set(0, 13, 0, A2, 2020));
        Due.is("LENDS", 1, () -> x.set(1, 13, 0, A2, 2040));
        Due.state("LENDS", () -> x.address(4, A3, 24));
        Due.state("has an ADDRESS", () -> x.set(1, 14, 0, 1, 0));
        Due.argument("b", () -> x.set(2, 14, 0, 2, 0));
        Due.is("BORROWS", 1, () -> x.set(2, 14, 0, 1, 0));
        Due.state("BORROWS", () -> x.address(8, A3, 24));
        Due.missing("no ADDRESS yet", () -> x.look(2, 1, 0, 0));
        x.run(22);
        Due.is("HAS", A2, () -> x.look(2, 1, 0, 1));
        Due.is("BITS", 24, () -> x.look(2, 1, 0, 2));
        Due.is("WAY by GATE", 256L * A1 + 8, () -> x.way(2, 0, Due.a(99, 0, 0, 1)));
        Due.is("LENT: ADDRESS", A2, () -> x.look(1, 8, 0, 1));
        Due.is("CLIENT", 8, () -> x.look(1, 8, 0, 2));
        long till = x.look(1, 8, 0, 3);
        x.set(3, 14, 0, 1, 0);
        x.run(20);
        Due.is("the next one", A3, () -> x.look(3, 1, 0, 1));
        x.run(6);
        Due.is("half of LIFE: renewed", 1, () -> x.look(1, 8, 0, 3) > till ? 1 : 0);
        Due.is("one that BORROWS already", 1, () -> x.set(2, 14, 0, 1, 0));
        Due.is("stays", A2, () -> x.look(2, 1, 0, 1));
        x.set(2, 0, 0, 0, 0);
        Due.missing("down: ADDRESS gone", () -> x.look(2, 1, 0, 1));
        Due.is("the FIXED row, too", 0, () -> x.route(2, 0, 0, 5, -1));
        Due.is("LENT stays", A2, () -> x.look(1, 8, 0, 1));
        x.set(2, 0, 1, 0, 0);
        x.run(22);
        Due.is("the same again", A2, () -> x.look(2, 1, 0, 1));
        x.set(2, 14, 0, 0, 0);
        Due.missing("not any more", () -> x.look(2, 1, 0, 1));
        Due.is("none", 1, () -> x.set(1, 13, 0, 0, 0));
        Due.missing("gone", () -> x.look(1, 8, 0, 1));
        x.run(40);
        x.run(10);
        Due.missing("its end came", () -> x.look(3, 1, 0, 1));
    }

    public static void main(String[] args) {
        zoneTexts();
        resolve();
        fullAnswers();
        leases();
        Due.end("NamesTest");
    }
}
