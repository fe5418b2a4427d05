/** Promises 8 and 9: minutes. */
public final class MinutesTest {
    private static final Due due = new Due();

    public static void main(String[] args) {
        promise8();
        byNumbers();
        heronsByNumbers();
        evenAndOdd();
        promise9();
        due.end();
    }

    private static void promise8() {
        PondLenses x = new PondLenses();
        due.is("8 none", Fens.BEYOND, x.go(0));
        due.is("8 below", Fens.BEYOND, x.go(-1));
        due.is("8 above", Fens.BEYOND, x.go(61));
        due.is("8 far", Fens.BEYOND, x.go(Integer.MAX_VALUE));
        due.is("8 stays", 0, x.now(0));
        x.thing(2, 0);
        x.thing(3, 0);
        due.is("8 one", 1, x.go(1));
        due.is("8 duck", 1, x.of(0, 1));
        due.is("8 frog", 1, x.of(1, 1));
        due.is("8 two", 2, x.go(1));
        due.is("8 duck", 2, x.of(0, 1));
        due.is("8 frog rests", 1, x.of(1, 1));
        due.is("8 sixty", 62, x.go(60));
        due.is("8 duck", 62 % 16, x.of(0, 1));
        due.is("8 frog", 31 % 16, x.of(1, 1));
        x.rain(1);
        due.is("8 rain", 63, x.go(1));
        due.is("8 duck", 64 % 16, x.of(0, 1));
    }

    /** The later thing finds the earlier one where that has come to by then. */
    private static void byNumbers() {
        PondLenses x = new PondLenses();
        x.dig(4, 4, 9);
        x.thing(1, 4);
        x.thing(6, 3);
        x.go(1);
        due.is("8 fish", 9, x.of(0, 1));
        due.is("8 pike too late", 3, x.of(1, 1));
        PondLenses y = new PondLenses();
        y.dig(4, 4, 9);
        y.thing(6, 3);
        y.thing(1, 4);
        y.go(1);
        due.is("8 pike in time", 4, y.of(0, 1));
        due.is("8 fish", 9, y.of(1, 1));
    }

    private static void heronsByNumbers() {
        PondLenses x = new PondLenses();
        x.dig(4, 4, 9);
        x.thing(1, 4);
        x.thing(4, 5);
        due.is("8 a fish is behind the heron now", 4, x.of(1, 3));
        x.go(1);
        due.is("8 but has gone by then", 6, x.of(1, 1));
        PondLenses y = new PondLenses();
        y.dig(4, 4, 9);
        y.thing(4, 5);
        y.thing(1, 4);
        y.go(1);
        due.is("8 heron in time", 4, y.of(0, 1));
        PondLenses z = new PondLenses();
        z.dig(3, 4, 4);
        z.thing(1, 3);
        z.thing(4, 5);
        z.go(1);
        due.is("8 a fish has come by then", 4, z.of(1, 1));
    }

    /** MINUTE is even or odd as it was ahead of the minute that goes by, in each of many at once. */
    private static void evenAndOdd() {
        PondLenses x = new PondLenses();
        x.thing(3, 0);
        x.thing(4, 8);
        int[] frog = {1, 1, 2, 2, 3, 3, 4};
        for (int i = 0; i < frog.length; i++) {
            due.is("8 minute", i + 1, x.go(1));
            due.is("8 frog behind minute " + i, frog[i], x.of(0, 1));
            due.is("8 heron behind minute " + i, 8 + frog[i], x.of(1, 1));
        }
        PondLenses y = new PondLenses();
        y.thing(3, 0);
        due.is("8 three", 3, y.go(3));
        due.is("8 frog behind three", 2, y.of(0, 1));
        due.is("8 four more", 7, y.go(4));
        due.is("8 frog behind seven", 4, y.of(0, 1));
        due.is("8 one more", 8, y.go(1));
        due.is("8 frog at rest", 4, y.of(0, 1));
        due.is("8 in rain", 9, y.rain(1) + y.go(1));
        due.is("8 frog in rain", 6, y.of(0, 1));
        due.is("8 in rain", 10, y.go(1));
        due.is("8 frog at rest in rain", 7, y.of(0, 1));
    }

    private static void promise9() {
        PondLenses x = new PondLenses();
        for (int what = 0; what <= 4; what++) {
            due.is("9 new " + what, 0, x.now(what));
        }
        x.thing(0, 0);
        x.thing(0, 4);
        x.thing(5, 4);
        x.change(1, 2, 80);
        x.rain(1);
        x.rain(0);
        x.go(7);
        x.rain(1);
        due.is("9 minute", 7, x.now(0));
        due.is("9 ponds", 17, x.now(1));
        due.is("9 sights", 1 << 15 | 1 << 3, x.now(2));
        x.dig(9, 0, 4);
        due.is("9 more sights", 1 << 15 | 1 << 3 | 1 << 9, x.now(2));
        due.is("9 rain", 1, x.now(3));
        due.is("9 lengths", 98, x.now(4));
        due.is("9 what 5", Fens.BEYOND, x.now(5));
        due.is("9 what -1", Fens.BEYOND, x.now(-1));
    }
}
