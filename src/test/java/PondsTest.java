/** Promises 1 to 7: a new object, ponds, things, rain. */
public final class PondsTest {
    private static final Due due = new Due();

    public static void main(String[] args) {
        promise1();
        promise2();
        promise3();
        promise4();
        numbersGoOn();
        promise5();
        nextPonds();
        nextOfPikeAndHeron();
        nextOfCork();
        nextInRain();
        herons();
        pikes();
        eightThings();
        promise6();
        promise7();
        due.end();
    }

    private static void promise1() {
        PondLenses x = new PondLenses();
        for (int pond = 0; pond < 16; pond++) {
            due.is("1 shows " + pond, pond == 15 ? 0 : pond + 1, x.pond(pond, 0));
            due.is("1 size", 3, x.pond(pond, 1));
            due.is("1 turned", 0, x.pond(pond, 2));
            due.is("1 flipped", 0, x.pond(pond, 3));
            due.is("1 ditch " + pond, pond, x.pond(pond, 4));
            due.is("1 depth", 10, x.pond(pond, 5));
            due.is("1 in", 0, x.pond(pond, 6));
            due.is("1 seen", 0, x.pond(pond, 7));
        }
        for (int what = 0; what <= 7; what++) {
            due.is("1 count " + what, what == 6 ? 1 : 0, x.count(what));
        }
        due.is("1 rain", 0, x.now(3));
        for (int spot = 0; spot < 10; spot++) {
            due.is("1 as", Fens.MISSING, x.as(spot, 0));
        }
        for (int s = 0; s < 4; s++) {
            due.is("1 load", Fens.MISSING, x.load(s));
        }
        due.is("1 undo", Fens.NONE, x.undo());
        due.is("1 status", 15, x.status(-1));
    }

    private static void promise2() {
        PondLenses x = new PondLenses();
        x.thing(0, 3);
        x.thing(1, 4);
        x.thing(2, 3);
        due.is("2 in 3", 5, x.pond(3, 6));
        due.is("2 in 4", 2, x.pond(4, 6));
        due.is("2 seen in 2", 5, x.pond(2, 7));
        due.is("2 seen in 3", 2, x.pond(3, 7));
        due.is("2 none shows its own", 0, x.pond(4, 7));
        x.dig(15, 0, 3);
        due.is("2 seen in 15", 5, x.pond(15, 7));
        x.thing(0, 0);
        due.is("2 seen in 15 no more", 5, x.pond(15, 7));
        x.dig(15, 0, 0);
        due.is("2 what is in 0 is seen in 15", 8, x.pond(15, 7));
        due.is("2 in 0", 8, x.pond(0, 6));
        due.is("2 pond 16", Fens.BEYOND, x.pond(16, 0));
        due.is("2 pond -1", Fens.BEYOND, x.pond(-1, 0));
        due.is("2 what 8", Fens.BEYOND, x.pond(0, 8));
        due.is("2 what -1", Fens.BEYOND, x.pond(0, -1));
        due.is("2 far pond", Fens.BEYOND, x.pond(Integer.MIN_VALUE, 6));
        due.is("2 far what", Fens.BEYOND, x.pond(0, Integer.MAX_VALUE));
    }

    private static void promise3() {
        PondLenses x = new PondLenses();
        int[] least = {0, 1, 0, 0, 0, 0};
        int[] most = {15, 9, 3, 1, 15, 99};
        int[] first = {6, 3, 0, 0, 5, 10};
        for (int what = 0; what <= 5; what++) {
            due.is("3 below " + what, Fens.BEYOND, x.dig(5, what, least[what] - 1));
            due.is("3 above " + what, Fens.BEYOND, x.dig(5, what, most[what] + 1));
            due.is("3 unchanged " + what, first[what], x.pond(5, what));
            due.is("3 least " + what, first[what], x.dig(5, what, least[what]));
            due.is("3 most " + what, least[what], x.dig(5, what, most[what]));
            due.is("3 is " + what, most[what], x.pond(5, what));
            due.is("3 other pond " + what, what == 0 ? 5 : what == 4 ? 4 : first[what], x.pond(4, what));
        }
        due.is("3 itself", Fens.BEYOND, x.dig(5, 0, 5));
        due.is("3 ditch to itself", 15, x.dig(5, 4, 5));
        due.is("3 what 6", Fens.BEYOND, x.dig(5, 6, 1));
        due.is("3 what -1", Fens.BEYOND, x.dig(5, -1, 1));
        due.is("3 pond 16", Fens.BEYOND, x.dig(16, 1, 1));
        due.is("3 pond -1", Fens.BEYOND, x.dig(-1, 1, 1));
    }

    private static void promise4() {
        PondLenses x = new PondLenses();
        due.is("4 kind 7", Fens.BEYOND, x.thing(7, 0));
        due.is("4 kind -1", Fens.BEYOND, x.thing(-1, 0));
        due.is("4 pond 16", Fens.BEYOND, x.thing(0, 16));
        due.is("4 pond -1", Fens.BEYOND, x.thing(0, -1));
        for (int thing = 0; thing < 8; thing++) {
            due.is("4 number", thing, x.thing(thing % 7, 15 - thing));
        }
        due.is("4 full", Fens.FULL, x.thing(0, 0));
        due.is("4 beyond ahead of full", Fens.BEYOND, x.thing(7, 0));
        due.is("4 count", 8, x.count(1));
        due.is("4 kind", 6, x.of(6, 0));
        due.is("4 pond", 9, x.of(6, 1));
        due.is("4 length", 9, x.of(6, 2));
    }

    /** The number of a new thing is how many there are, also where undo() has taken some back. */
    private static void numbersGoOn() {
        PondLenses x = new PondLenses();
        due.is("4 the first", 0, x.thing(0, 15));
        x.image();
        due.is("4 the second", 1, x.thing(6, 0));
        x.undo();
        due.is("4 the second again", 1, x.thing(5, 7));
        due.is("4 as told", 5, x.of(1, 0));
        due.is("4 where told", 7, x.of(1, 1));
        while (x.count(1) < 8) {
            x.change(x.thing(1, 1), 2, 99);
        }
        due.is("4 full", Fens.FULL, x.thing(0, 0));
        x.undo();
        due.is("4 full no more", 1, x.thing(0, 0));
        due.is("4 as long as at first", 9, x.of(1, 2));
    }

    private static void promise5() {
        PondLenses x = new PondLenses();
        due.is("5 no thing", Fens.BEYOND, x.of(0, 0));
        x.thing(5, 7);
        x.dig(2, 0, 7);
        x.dig(15, 0, 7);
        due.is("5 kind", 5, x.of(0, 0));
        due.is("5 pond", 7, x.of(0, 1));
        due.is("5 length", 9, x.of(0, 2));
        due.is("5 next", 7, x.of(0, 3));
        due.is("5 seen in", 1 << 2 | 1 << 6 | 1 << 15, x.of(0, 4));
        x.dig(2, 0, 3);
        x.dig(15, 0, 3);
        x.dig(6, 0, 3);
        due.is("5 seen nowhere", 0, x.of(0, 4));
        due.is("5 what 5", Fens.BEYOND, x.of(0, 5));
        due.is("5 what -1", Fens.BEYOND, x.of(0, -1));
        due.is("5 thing 1", Fens.BEYOND, x.of(1, 0));
        due.is("5 thing -1", Fens.BEYOND, x.of(-1, 0));
    }

    /** Each kind alone in pond 3, which shows 8 and has a ditch to 11. */
    private static void nextPonds() {
        int[] even = {3, 11, 8, 8, 8, 3, 11};
        int[] odd = {3, 11, 8, 3, 3, 3, 11};
        for (int kind = 0; kind <= 6; kind++) {
            PondLenses x = new PondLenses();
            x.dig(3, 0, 8);
            x.dig(3, 4, 11);
            x.thing(kind, 3);
            due.is("5 next, even, of " + kind, even[kind], x.of(0, 3));
            x.rain(1);
            due.is("5 next in rain of " + kind, even[kind] + 1, x.of(0, 3));
            x.dig(3, 0, 15);
            x.dig(3, 4, 15);
            due.is("5 next behind 15 of " + kind, even[kind] == 3 ? 4 : 0, x.of(0, 3));
            x.rain(0);
            x.dig(3, 0, 8);
            x.dig(3, 4, 11);
            x.go(1);
            x.change(0, 1, 3);
            due.is("5 next, odd, of " + kind, odd[kind], x.of(0, 3));
        }
    }

    private static void nextOfCork() {
        PondLenses x = new PondLenses();
        x.thing(5, 3);
        x.dig(3, 4, 11);
        x.dig(11, 5, 0);
        due.is("5 cork less long than deep", 3, x.of(0, 3));
        x.change(0, 2, 10);
        due.is("5 cork as long as deep", 3, x.of(0, 3));
        x.change(0, 2, 11);
        due.is("5 cork longer than deep", 11, x.of(0, 3));
        x.change(0, 2, 99);
        x.dig(3, 5, 99);
        due.is("5 cork of most and most deep", 3, x.of(0, 3));
        x.dig(3, 5, 98);
        due.is("5 cork longer by 1", 11, x.of(0, 3));
        x.change(0, 2, 1);
        x.dig(3, 5, 1);
        due.is("5 cork of 1, 1 deep", 3, x.of(0, 3));
        x.dig(3, 5, 0);
        due.is("5 cork of 1, not deep", 11, x.of(0, 3));
        x.dig(3, 4, 3);
        due.is("5 cork, a ditch to itself", 3, x.of(0, 3));
    }

    /** What would be the pond p without rain is p + 1 in it, and 0 for 15, for each way to a pond. */
    private static void nextInRain() {
        for (int p : new int[] {0, 4, 14, 15}) {
            int wet = p == 15 ? 0 : p + 1;
            PondLenses x = new PondLenses();
            x.rain(1);
            x.thing(0, p);
            due.is("5 a thing in rain, " + p, wet, x.of(0, 3));
            x.change(0, 0, 5);
            due.is("5 a cork in rain stays, " + p, wet, x.of(0, 3));
            x.change(0, 1, 7);
            x.dig(7, 4, p);
            x.dig(7, 5, 8);
            due.is("5 a cork in rain, " + p, wet, x.of(0, 3));
            x.change(0, 0, 1);
            due.is("5 a fish in rain, " + p, wet, x.of(0, 3));
            x.change(0, 0, 6);
            due.is("5 a pike in rain, " + p, wet, x.of(0, 3));
            x.dig(7, 4, 7);
            x.dig(7, 0, p);
            x.thing(1, p);
            due.is("5 a pike behind a fish in rain, " + p, wet, x.of(0, 3));
            x.change(0, 0, 2);
            due.is("5 a duck in rain, " + p, wet, x.of(0, 3));
            x.change(0, 0, 3);
            due.is("5 a frog in rain, " + p, wet, x.of(0, 3));
            x.change(0, 0, 4);
            due.is("5 a heron in rain, " + p, wet, x.of(0, 3));
            for (int from = 0; from < 16; from++) {
                x.dig(from, 0, from == p ? 7 : from == 6 ? 5 : 6);
            }
            due.is("5 a heron behind a fish in rain, " + p, wet, x.of(0, 3));
            x.go(1);
            x.change(0, 1, p);
            due.is("5 a heron at rest in rain, " + p, wet, x.of(0, 3));
            x.change(0, 0, 3);
            due.is("5 a frog at rest in rain, " + p, wet, x.of(0, 3));
        }
    }

    private static void herons() {
        PondLenses x = new PondLenses();
        x.thing(4, 9);
        x.thing(1, 12);
        x.dig(12, 0, 9);
        due.is("5 heron, a fish in 12, 8 is less", 10, x.of(0, 3));
        x.thing(1, 8);
        due.is("5 heron, fish in both", 8, x.of(0, 3));
        x.change(2, 1, 10);
        due.is("5 heron, a fish where it would go", 10, x.of(0, 3));
        x.change(2, 1, 9);
        due.is("5 heron, a fish beside it", 10, x.of(0, 3));
        x.dig(8, 0, 7);
        due.is("5 heron, 12 is the least now", 12, x.of(0, 3));
        x.dig(15, 0, 9);
        due.is("5 heron, 12 is still the least", 12, x.of(0, 3));
        for (int kind : new int[] {0, 2, 3, 4, 5}) {
            x.change(1, 0, kind);
            due.is("5 heron, no fish but a " + kind, 10, x.of(0, 3));
        }
        x.change(1, 0, 6);
        due.is("5 heron, a pike", 12, x.of(0, 3));
        x.go(1);
        x.change(0, 1, 9);
        x.change(1, 1, 12);
        due.is("5 heron, a pike, odd", 12, x.of(0, 3));
        x.change(1, 1, 11);
        due.is("5 heron, no fish there, odd", 9, x.of(0, 3));
        x.change(0, 0, 3);
        x.change(1, 1, 12);
        due.is("5 a frog isn't a heron", 9, x.of(0, 3));
        x.change(0, 0, 2);
        due.is("5 nor is a duck", 10, x.of(0, 3));
    }

    private static void pikes() {
        PondLenses x = new PondLenses();
        x.thing(6, 9);
        x.dig(9, 4, 3);
        due.is("5 a pike alone", 3, x.of(0, 3));
        x.thing(1, 3);
        due.is("5 a fish where the ditch leads", 3, x.of(0, 3));
        x.change(1, 1, 8);
        due.is("5 a fish in what shows its own", 3, x.of(0, 3));
        for (int kind = 0; kind <= 6; kind++) {
            x.change(1, 0, kind);
            x.change(1, 1, 10);
            due.is("5 a pike sees kind " + kind, kind == 1 || kind == 6 ? 10 : 3, x.of(0, 3));
        }
        x.change(0, 0, 1);
        due.is("5 a fish isn't a pike", 3, x.of(0, 3));
    }

    private static void eightThings() {
        PondLenses x = new PondLenses();
        for (int thing = 0; thing < 8; thing++) {
            x.thing(thing == 7 ? 1 : 0, 15);
            x.change(thing, 2, 99);
        }
        due.is("2 all in 15", 255, x.pond(15, 6));
        due.is("2 all seen in 14", 255, x.pond(14, 7));
        due.is("5 thing 7", 1, x.of(7, 0));
        due.is("6 thing 7", 15, x.change(7, 1, 0));
        due.is("2 thing 7 in 0", 128, x.pond(0, 6));
        due.is("5 thing 7 is seen in 15", 1 << 15, x.of(7, 4));
        due.is("9 lengths", 792, x.now(4));
        due.is("9 ponds", 1 | 1 << 15, x.now(1));
        due.is("9 sights", 1 << 14 | 1 << 15, x.now(2));
        x.change(0, 0, 6);
        x.dig(15, 4, 3);
        due.is("5 a pike sees thing 7", 0, x.of(0, 3));
        x.change(7, 0, 0);
        due.is("5 a pike sees no fish among eight", 3, x.of(0, 3));
        x.change(0, 0, 4);
        due.is("5 nor does a heron", 0, x.of(0, 3));
        x.change(7, 1, 14);
        x.change(7, 0, 1);
        due.is("5 but it does so", 14, x.of(0, 3));
        x.change(7, 1, 0);
        for (int pond = 1; pond < 16; pond++) {
            x.dig(pond, 0, 0);
        }
        due.is("5 seen in all but its own", 65534, x.of(7, 4));
        due.is("9 sights", 65534, x.now(2));
    }

    private static void nextOfPikeAndHeron() {
        PondLenses x = new PondLenses();
        x.thing(6, 3);
        x.dig(3, 4, 11);
        x.thing(2, 4);
        due.is("5 pike, a duck shown", 11, x.of(0, 3));
        x.change(1, 0, 1);
        due.is("5 pike, a fish shown", 4, x.of(0, 3));
        x.change(1, 0, 6);
        due.is("5 pike, a pike shown", 4, x.of(0, 3));
        x.change(1, 1, 3);
        due.is("5 pike, the pike beside it", 11, x.of(0, 3));

        x.change(0, 0, 4);
        x.change(0, 1, 9);
        x.dig(5, 0, 9);
        due.is("5 heron, no fish in the shower", 10, x.of(0, 3));
        x.change(1, 1, 8);
        due.is("5 heron, a pike in one that isn't the least", 10, x.of(0, 3));
        x.change(1, 1, 5);
        due.is("5 heron, a pike in the least", 5, x.of(0, 3));
        x.change(1, 0, 5);
        due.is("5 heron, a cork in the least", 10, x.of(0, 3));
        x.change(1, 0, 1);
        x.dig(5, 0, 6);
        x.dig(8, 0, 6);
        due.is("5 heron, no shower", 10, x.of(0, 3));
        x.dig(5, 0, 9);
        x.go(1);
        x.change(0, 1, 9);
        x.change(1, 1, 5);
        due.is("5 heron in odd minutes", 5, x.of(0, 3));
        x.change(0, 0, 3);
        due.is("5 frog has no eye for fish", 9, x.of(0, 3));
        ofTheFirst();
    }

    /** Thing 0 may be the fish, and pond 0 the shower. */
    private static void ofTheFirst() {
        PondLenses x = new PondLenses();
        x.thing(1, 0);
        x.thing(6, 15);
        due.is("5 pike, thing 0 shown", 0, x.of(1, 3));
        x.change(1, 0, 4);
        x.change(1, 1, 1);
        due.is("5 heron, thing 0 in pond 0", 0, x.of(1, 3));
        due.is("5 fish", 0, x.of(0, 3));
        x.rain(1);
        due.is("5 heron in rain", 1, x.of(1, 3));
    }

    private static void promise6() {
        PondLenses x = new PondLenses();
        due.is("6 no thing", Fens.BEYOND, x.change(0, 0, 0));
        x.thing(1, 3);
        x.thing(2, 4);
        due.is("6 kind", 1, x.change(0, 0, 6));
        due.is("6 kind is", 6, x.of(0, 0));
        due.is("6 kind least", 6, x.change(0, 0, 0));
        due.is("6 pond", 3, x.change(0, 1, 15));
        due.is("6 pond is", 15, x.of(0, 1));
        due.is("6 pond least", 15, x.change(0, 1, 0));
        due.is("6 length", 9, x.change(0, 2, 99));
        due.is("6 length is", 99, x.of(0, 2));
        due.is("6 length least", 99, x.change(0, 2, 1));
        due.is("6 kind 7", Fens.BEYOND, x.change(0, 0, 7));
        due.is("6 kind -1", Fens.BEYOND, x.change(0, 0, -1));
        due.is("6 pond 16", Fens.BEYOND, x.change(0, 1, 16));
        due.is("6 pond -1", Fens.BEYOND, x.change(0, 1, -1));
        due.is("6 length 0", Fens.BEYOND, x.change(0, 2, 0));
        due.is("6 length 100", Fens.BEYOND, x.change(0, 2, 100));
        due.is("6 what 3", Fens.BEYOND, x.change(0, 3, 1));
        due.is("6 what -1", Fens.BEYOND, x.change(0, -1, 1));
        due.is("6 thing 2", Fens.BEYOND, x.change(2, 0, 1));
        due.is("6 thing -1", Fens.BEYOND, x.change(-1, 0, 1));
        due.is("6 other thing", 2, x.of(1, 0));
        due.is("6 other pond", 4, x.of(1, 1));
    }

    private static void promise7() {
        PondLenses x = new PondLenses();
        due.is("7 rain", 0, x.rain(1));
        due.is("7 is", 1, x.now(3));
        due.is("7 again", 1, x.rain(1));
        due.is("7 dry", 1, x.rain(0));
        due.is("7 rain 2", Fens.BEYOND, x.rain(2));
        due.is("7 rain -1", Fens.BEYOND, x.rain(-1));
        due.is("7 stays", 0, x.now(3));
    }
}
