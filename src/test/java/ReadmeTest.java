/** What README.md tells of its example. */
public final class ReadmeTest {
    private static final Due due = new Due();

    public static void main(String[] args) {
        PondLenses fen = new PondLenses();
        due.is("pond 9 shows pond 4", 10, fen.dig(9, 0, 4));
        int duck = fen.thing(2, 3);
        due.is("a duck in pond 3", 0, duck);
        due.is("a minute", 1, fen.go(1));
        due.is("where it swims", 4, fen.of(duck, 1));
        due.is("where it is seen", 520, fen.of(duck, 4));
        due.is("where it will be", 8, fen.ahead(duck, 10));
        due.is("no such pond", Fens.BEYOND, fen.pond(16, 0));
        due.is("findings", 1, fen.status(0));
        due.is("fish", 4, fen.feed(0x66697368, 4));
        due.is("in", 7, fen.feed(0x20696e, 3));
        due.is("3", 9, fen.feed(0x2033, 2));
        due.is("one item", 1, fen.text());
        due.is("thing 1 is a fish", 1, fen.of(1, 0));
        due.is("in pond 3", 3, fen.of(1, 1));
        due.end();
    }
}
