/** Promises 27 to 29: eyes, dredging. */
public final class EyesTest {
    private static final Due due = new Due();

    public static void main(String[] args) {
        promise27();
        promise28();
        promise29();
        due.end();
    }

    private static void promise27() {
        PondLenses x = new PondLenses();
        due.is("27 no things", 0, x.eyes());
        x.thing(0, 5);
        due.is("27 one", 1 << 4, x.eyes());
        x.thing(0, 5);
        due.is("27 two in one", 1 << 4, x.eyes());
        x.thing(0, 9);
        due.is("27 two ponds", 1 << 4 | 1 << 8, x.eyes());
        x.dig(1, 0, 9);
        x.dig(12, 0, 5);
        due.is("27 the least", 1 << 4 | 1 << 1, x.eyes());
        x.dig(4, 0, 0);
        due.is("27 the other", 1 << 12 | 1 << 1, x.eyes());
        x.dig(12, 0, 0);
        due.is("27 seen nowhere", Fens.NONE, x.eyes());
    }

    private static void promise28() {
        PondLenses x = new PondLenses();
        due.is("28 no thing", Fens.BEYOND, x.dredge(0, 0));
        x.thing(0, 5);
        x.dig(5, 5, 77);
        due.is("28 its own", 1 << 5, x.dredge(0, 0));
        due.is("28 its depth", 77, x.dredge(0, 1));
        x.dig(9, 0, 5);
        due.is("28 seen in two", 1 << 5, x.dredge(0, 0));
        x.change(0, 1, 10);
        due.is("28 seen nowhere", 1 << 10, x.dredge(0, 0));
        x.dig(4, 0, 0);
        x.dig(9, 0, 0);
        due.is("28 where none shows", 1 << 5 | 1 << 10, x.dredge(0, 0));
        due.is("28 depths together", 87, x.dredge(0, 1));
        due.is("28 what 2", Fens.BEYOND, x.dredge(0, 2));
        due.is("28 what -1", Fens.BEYOND, x.dredge(0, -1));
        due.is("28 thing 1", Fens.BEYOND, x.dredge(1, 0));
        due.is("28 thing -1", Fens.BEYOND, x.dredge(-1, 0));
    }

    private static void promise29() {
        PondLenses x = new PondLenses();
        due.is("29 no things", 0, x.watch(1));
        x.thing(2, 5);
        due.is("29 behind each", 5, x.watch(1));
        due.is("29 the least", 5, x.watch(3));
        due.is("29 wraps", 0, x.watch(16));
        x.thing(0, 9);
        due.is("29 as many, the least", 5, x.watch(1));
        due.is("29 it rests", 8, x.watch(2));
        x.thing(0, 13);
        x.thing(0, 13);
        due.is("29 two in one", 12, x.watch(40));
        due.is("29 stays", 5, x.of(0, 1));
        due.is("29 n 0", Fens.BEYOND, x.watch(0));
        due.is("29 n 41", Fens.BEYOND, x.watch(41));
        due.is("29 n -1", Fens.BEYOND, x.watch(-1));
    }
}
