/** Promises 27 to 29: eyes, dredging. */
public final class EyesTest {
    private static final Due due = new Due();

    public static void main(String[] args) {
        promise27();
        eyesInAll();
        promise28();
        dredgeFirstAndLast();
        promise29();
        watchLate();
        due.end();
    }

    private static void promise27() {
        PondLenses x = new PondLenses();
        due.is("27 no things", 0, x.eyes());
        x.thing(0, 5);
        due.is("27 one", 1 << 4, x.eyes());
        x.thing(0, 5);
        due.is("27 two in one", 1 << 4, x.eyes());
        x.thing(0, 9);
        due.is("27 two ponds", 1 << 4 | 1 << 8, x.eyes());
        x.dig(1, 0, 9);
        x.dig(12, 0, 5);
        due.is("27 the least", 1 << 4 | 1 << 1, x.eyes());
        x.dig(4, 0, 0);
        due.is("27 the other", 1 << 12 | 1 << 1, x.eyes());
        x.dig(12, 0, 0);
        due.is("27 seen nowhere", Fens.NONE, x.eyes());
    }

    private static void eyesInAll() {
        PondLenses x = new PondLenses();
        x.thing(0, 1);
        due.is("27 the first pond", 1, x.eyes());
        x.change(0, 1, 0);
        due.is("27 the last pond", 1 << 15, x.eyes());
        for (int thing = 1; thing < 8; thing++) {
            x.thing(0, 2 * thing);
        }
        due.is("27 eight eyes", 1 << 15 | 0x2AAA, x.eyes());
        x.dig(0, 0, 2);
        x.dig(14, 0, 0);
        due.is("27 the least of each", 1 << 14 | 0x2AA9, x.eyes());
        for (int thing = 0; thing < 8; thing++) {
            x.change(thing, 1, 9);
        }
        due.is("27 one eye for all", 1 << 8, x.eyes());
        x.dig(8, 0, 7);
        due.is("27 one is seen nowhere", Fens.NONE, x.eyes());
        x.dig(15, 0, 9);
        due.is("27 in the last", 1 << 15, x.eyes());
    }

    private static void promise28() {
        PondLenses x = new PondLenses();
        due.is("28 no thing", Fens.BEYOND, x.dredge(0, 0));
        x.thing(0, 5);
        x.dig(5, 5, 77);
        due.is("28 its own", 1 << 5, x.dredge(0, 0));
        due.is("28 its depth", 77, x.dredge(0, 1));
        x.dig(9, 0, 5);
        due.is("28 seen in two", 1 << 5, x.dredge(0, 0));
        x.change(0, 1, 10);
        due.is("28 seen nowhere", 1 << 10, x.dredge(0, 0));
        x.dig(4, 0, 0);
        x.dig(9, 0, 0);
        due.is("28 where none shows", 1 << 5 | 1 << 10, x.dredge(0, 0));
        due.is("28 depths together", 87, x.dredge(0, 1));
        due.is("28 what 2", Fens.BEYOND, x.dredge(0, 2));
        due.is("28 what -1", Fens.BEYOND, x.dredge(0, -1));
        due.is("28 thing 1", Fens.BEYOND, x.dredge(1, 0));
        due.is("28 thing -1", Fens.BEYOND, x.dredge(-1, 0));
    }

    private static void dredgeFirstAndLast() {
        PondLenses x = new PondLenses();
        x.thing(0, 0);
        x.thing(0, 15);
        x.dig(0, 5, 1);
        x.dig(15, 5, 99);
        due.is("28 the first pond", 1, x.dredge(0, 0));
        due.is("28 the last pond", 1 << 15, x.dredge(1, 0));
        due.is("28 the last depth", 99, x.dredge(1, 1));
        for (int pond = 0; pond < 16; pond++) {
            x.dig(pond, 0, pond == 7 ? 8 : 7);
            x.dig(pond, 5, 99);
        }
        due.is("28 all but two", 65535 & ~(3 << 7), x.dredge(0, 0));
        due.is("28 all but two", 14 * 99, x.dredge(1, 1));
        x.change(0, 1, 7);
        due.is("28 seen in all but its own", 1 << 7, x.dredge(0, 0));
        x.change(0, 1, 8);
        due.is("28 seen in one", 1 << 8, x.dredge(0, 0));
        x.dig(8, 5, 0);
        due.is("28 no depth", 0, x.dredge(0, 1));
    }

    /** A duck in 3 ponds by turns: the one that comes first is most only behind 1 more than each third. */
    private static void watchLate() {
        PondLenses x = new PondLenses();
        x.dig(9, 0, 7);
        x.dig(6, 0, 5);
        x.thing(2, 9);
        due.is("29 in 39, the least", 7, x.watch(39));
        due.is("29 in 40, the most", 9, x.watch(40));
        due.is("29 in 1, not now", 9, x.watch(1));
        due.is("29 in 2", 7, x.watch(2));
        PondLenses y = new PondLenses();
        y.thing(0, 0);
        due.is("29 the last pond", 15, y.watch(1));
        y.change(0, 1, 2);
        due.is("29 pond 1", 1, y.watch(1));
        y.thing(2, 1);
        due.is("29 two things in minute 1", 1, y.watch(1));
        y.thing(0, 9);
        y.thing(0, 9);
        y.thing(0, 9);
        due.is("29 three rest elsewhere", 8, y.watch(1));
        for (int pond = 0; pond < 16; pond++) {
            y.dig(pond, 0, pond == 0 ? 15 : 0);
        }
        due.is("29 the duck alone is seen, in all but 0", 1, y.watch(1));
        y.change(1, 0, 0);
        due.is("29 seen nowhere", 0, y.watch(1));
    }

    private static void promise29() {
        PondLenses x = new PondLenses();
        due.is("29 no things", 0, x.watch(1));
        x.thing(2, 5);
        due.is("29 behind each", 5, x.watch(1));
        due.is("29 the least", 5, x.watch(3));
        due.is("29 wraps", 0, x.watch(16));
        x.thing(0, 9);
        due.is("29 as many, the least", 5, x.watch(1));
        due.is("29 it rests", 8, x.watch(2));
        x.thing(0, 13);
        x.thing(0, 13);
        due.is("29 two in one", 12, x.watch(40));
        due.is("29 stays", 5, x.of(0, 1));
        due.is("29 n 0", Fens.BEYOND, x.watch(0));
        due.is("29 n 41", Fens.BEYOND, x.watch(41));
        due.is("29 n -1", Fens.BEYOND, x.watch(-1));
    }
}
