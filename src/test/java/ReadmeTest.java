/** What README.md shows. */
public final class ReadmeTest {
    public static void main(String[] args) {
        InternetHouse x = new InternetHouse();
        int a = x.node(0);
        int b = x.node(0);
        x.line(0, 4, 1, 255, 148);
        x.address(0, 0x0A000001, 24);
        x.address(4, 0x0A000002, 24);
        x.echo(a, 0x0A000002, 10, 32);
        x.run(20);
        Due.is("who answered", 0x0A000002, () -> x.look(a, 13, 0, 3));
        x.feed(0x64726F70, 0x2070726F, 0x746F2031, 0, 0);
        x.end(12);
        Due.is("one RULE", 1, () -> x.load(b, 0));
        x.echo(a, 0x0A000002, 10, 32);
        x.run(20);
        Due.is("one PACKET was FILTERED", 1, () -> x.count(b, 5));
        Due.missing("no second answer", () -> x.look(a, 13, 1, 0));
        Due.end("ReadmeTest");
    }
}
