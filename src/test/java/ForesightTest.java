/** Promises 18 to 23: what will be. */
public final class ForesightTest {
    private static final Due due = new Due();

    public static void main(String[] args) {
        promise18();
        promise19();
        promise20();
        promise21();
        promise22();
        promise23();
        lastMinutes();
        meetLate();
        castLate();
        otherThings();
        due.end();
    }

    private static void promise18() {
        PondLenses x = new PondLenses();
        due.is("18 no thing", Fens.BEYOND, x.ahead(0, 0));
        x.thing(2, 3);
        x.thing(3, 3);
        due.is("18 now", 3, x.ahead(0, 0));
        due.is("18 one", 4, x.ahead(0, 1));
        due.is("18 hundred", (3 + 100) % 16, x.ahead(0, 100));
        due.is("18 frog", 4, x.ahead(1, 2));
        due.is("18 101", Fens.BEYOND, x.ahead(0, 101));
        due.is("18 -1", Fens.BEYOND, x.ahead(0, -1));
        due.is("18 thing 2", Fens.BEYOND, x.ahead(2, 0));
        due.is("18 minute stays", 0, x.now(0));
        due.is("18 thing stays", 3, x.of(0, 1));
    }

    private static void promise19() {
        PondLenses x = new PondLenses();
        due.is("19 no thing", Fens.BEYOND, x.comes(0, 0));
        x.thing(2, 3);
        x.thing(0, 5);
        due.is("19 now", 0, x.comes(0, 3));
        due.is("19 later", 15, x.comes(0, 2));
        due.is("19 never", Fens.NONE, x.comes(1, 6));
        due.is("19 pond 16", Fens.BEYOND, x.comes(0, 16));
        due.is("19 pond -1", Fens.BEYOND, x.comes(0, -1));
        due.is("19 thing 2", Fens.BEYOND, x.comes(2, 0));
        due.is("19 stays", 3, x.of(0, 1));
        due.is("19 counted", 1, x.status(3));
    }

    private static void promise20() {
        PondLenses x = new PondLenses();
        due.is("20 no thing", Fens.BEYOND, x.seen(0, 0));
        x.thing(2, 3);
        due.is("20 now", 0, x.seen(0, 2));
        due.is("20 later", 1, x.seen(0, 3));
        due.is("20 much later", 15, x.seen(0, 1));
        x.dig(0, 0, 9);
        due.is("20 elsewhere too", 6, x.seen(0, 0));
        x.dig(15, 0, 3);
        x.dig(1, 0, 0);
        due.is("20 never", Fens.NONE, x.seen(0, 1));
        due.is("20 pond 16", Fens.BEYOND, x.seen(0, 16));
        due.is("20 pond -1", Fens.BEYOND, x.seen(0, -1));
        due.is("20 thing 1", Fens.BEYOND, x.seen(1, 0));
    }

    private static void promise21() {
        PondLenses x = new PondLenses();
        x.thing(2, 3);
        due.is("21 one thing", Fens.BEYOND, x.meet(0, 1));
        x.thing(0, 5);
        x.thing(2, 3);
        x.thing(2, 4);
        due.is("21 now", 0, x.meet(0, 2));
        due.is("21 later", 2, x.meet(0, 1));
        due.is("21 the other way", 2, x.meet(1, 0));
        due.is("21 never", Fens.NONE, x.meet(0, 3));
        due.is("21 the same", Fens.BEYOND, x.meet(1, 1));
        due.is("21 thing 4", Fens.BEYOND, x.meet(4, 0));
        due.is("21 thing -1", Fens.BEYOND, x.meet(0, -1));
        due.is("21 stays", 3, x.of(0, 1));
    }

    private static void promise22() {
        PondLenses x = new PondLenses();
        due.is("22 no thing", Fens.BEYOND, x.cast(0, 1));
        x.thing(2, 3);
        x.thing(0, 5);
        due.is("22 not now", 4, x.cast(0, 1));
        due.is("22 the least", 4, x.cast(0, 12));
        due.is("22 the least", 0, x.cast(0, 16));
        due.is("22 one twice", 4, x.cast(0, 17));
        due.is("22 it rests", 5, x.cast(1, 100));
        x.dig(9, 0, 8);
        due.is("22 most", 8, x.cast(0, 100));
        due.is("22 least of as many", 8, x.cast(0, 8));
        due.is("22 n 0", Fens.BEYOND, x.cast(0, 0));
        due.is("22 n 101", Fens.BEYOND, x.cast(0, 101));
        due.is("22 thing 2", Fens.BEYOND, x.cast(2, 1));
    }

    private static void promise23() {
        PondLenses x = new PondLenses();
        due.is("23 no thing", Fens.BEYOND, x.kindFor(0));
        x.thing(0, 3);
        due.is("23 a duck", 2, x.kindFor(0));
        due.is("23 stays", 0, x.of(0, 0));
        x.dig(4, 0, 3);
        for (int pond = 0; pond < 16; pond++) {
            x.dig(pond, 4, (pond + 1) % 16);
        }
        due.is("23 a fish", 1, x.kindFor(0));
        for (int pond = 0; pond < 16; pond++) {
            x.dig(pond, 4, pond);
        }
        x.dig(3, 4, 9);
        x.dig(9, 4, 3);
        due.is("23 as many", 1, x.kindFor(0));
        x.rain(1);
        due.is("23 in rain, a thing", 0, x.kindFor(0));
        due.is("23 thing 1", Fens.BEYOND, x.kindFor(1));
        due.is("23 thing -1", Fens.BEYOND, x.kindFor(-1));
        nowCountsToo();
    }

    /** Minute 100 counts in comes() and seen(), minute 60 in kindFor(); one more doesn't. */
    private static void lastMinutes() {
        PondLenses x = Fens.chase(0, 5);
        due.is("19 in minute 99", 99, x.comes(1, 0));
        due.is("19 in minute 100", 100, x.comes(1, 8));
        due.is("19 in minute 101", Fens.NONE, x.comes(1, 9));
        due.is("20 in minute 99", 99, x.seen(1, 8));
        due.is("20 in minute 100", 100, x.seen(1, 9));
        due.is("20 in minute 101", Fens.NONE, x.seen(1, 10));
        due.is("18 in minute 99", 0, x.ahead(1, 99));
        due.is("18 in minute 100", 8, x.ahead(1, 100));
        due.is("19 the first time", 0, x.comes(1, 5));
        due.is("20 the first time", 0, x.seen(1, 4));
        due.is("20 the first time, in the other too", 0, x.seen(1, 0));
        x.go(1);
        due.is("19 a minute less", 100, x.comes(1, 9));
        due.is("20 a minute less", 100, x.seen(1, 10));
        due.is("23 nothing new in 60", 2, x.kindFor(1));
        PondLenses y = Fens.chase(9, 3);
        due.is("23 something new in minute 61", 61, y.comes(1, 0));
        due.is("23 counts not", 2, y.kindFor(1));
        y.go(1);
        due.is("23 something new in minute 60", 60, y.comes(1, 0));
        due.is("23 counts", 4, y.kindFor(1));
    }

    /** A duck swims round 10 ponds, a fish round 11; the five of both stand in a row in either. */
    private static PondLenses rings(int duck, int fish) {
        PondLenses x = new PondLenses();
        x.dig(9, 0, 0);
        int[] ring = {0, 1, 2, 3, 4, 10, 11, 12, 13, 14, 15};
        for (int i = 0; i < 11; i++) {
            x.dig(ring[i], 4, ring[(i + 1) % 11]);
        }
        x.thing(2, duck);
        x.thing(1, fish);
        return x;
    }

    private static void meetLate() {
        due.is("21 now", 0, rings(4, 4).meet(0, 1));
        due.is("21 in minute 1", 1, rings(9, 15).meet(0, 1));
        due.is("21 in minute 100", 100, rings(0, 15).meet(0, 1));
        due.is("21 the other way", 100, rings(0, 15).meet(1, 0));
        due.is("21 in minute 101", Fens.NONE, rings(9, 14).meet(0, 1));
    }

    /** A duck in 3 ponds by turns: the one that comes first is most only behind 1 more than each third. */
    private static void castLate() {
        PondLenses x = new PondLenses();
        x.dig(8, 0, 7);
        x.dig(7, 0, 9);
        x.dig(9, 0, 8);
        x.thing(2, 7);
        due.is("22 in 99, the least", 7, x.cast(0, 99));
        due.is("22 in 100, the most", 9, x.cast(0, 100));
        due.is("22 in 2, the least", 8, x.cast(0, 2));
        due.is("22 in 1, not now", 9, x.cast(0, 1));
        due.is("22 in 3, not now", 7, x.cast(0, 3));
    }

    /** The others move too, and each minute rains as now. */
    private static void otherThings() {
        PondLenses x = new PondLenses();
        x.thing(1, 3);
        x.thing(6, 5);
        x.dig(3, 4, 6);
        due.is("18 a fish will be there by then", 6, x.ahead(1, 1));
        due.is("19 a fish will be there by then", 1, x.comes(1, 6));
        due.is("21 a fish will be there by then", 1, x.meet(1, 0));
        due.is("18 and stays with it", 6, x.ahead(1, 2));
        due.is("23 as a duck it comes further", 2, x.kindFor(1));
        x.rain(1);
        due.is("18 in rain", 7, x.ahead(0, 1));
        due.is("18 in rain, no fish there", 6, x.ahead(1, 1));
        PondLenses y = new PondLenses();
        y.thing(3, 3);
        y.go(1);
        due.is("18 an odd minute first", 4, y.ahead(0, 1));
        due.is("18 then an even one", 5, y.ahead(0, 2));
        due.is("19 an odd minute first", 2, y.comes(0, 5));
        due.is("22 an odd minute first", 4, y.cast(0, 1));
        due.is("22 two in each", 5, y.cast(0, 3));
    }

    /** As a fish it is in 3 and 4, as a duck in 5, 6 and, now, 3. */
    private static void nowCountsToo() {
        PondLenses x = new PondLenses();
        x.thing(0, 3);
        x.dig(3, 4, 4);
        x.dig(3, 0, 5);
        x.dig(5, 0, 6);
        x.dig(6, 0, 5);
        due.is("23 now too", 2, x.kindFor(0));
        x.dig(4, 4, 7);
        x.dig(7, 4, 4);
        due.is("23 the least of as many", 1, x.kindFor(0));
        // A fish finds a ring of 2 ponds that it is in already; a duck a ring that it isn't in.
        x.dig(4, 4, 3);
        due.is("23 the place now counts once", 2, x.kindFor(0));
    }
}
