import java.util.List;
import java.util.function.Consumer;
import java.util.function.ToLongFunction;

/**
 * Each finding of each act, at the edges that the document names and far behind them: it is the one that
 * is due (of several the first that the act's words ask for), it is counted once, and nothing else changes.
 */
public final class FindingsTest {
    private static final Due due = new Due();
    private static final int MIN = Integer.MIN_VALUE;
    private static final int MAX = Integer.MAX_VALUE;
    private static final int BEYOND = Fens.BEYOND;
    private static final int FULL = Fens.FULL;
    private static final int KIND = Fens.KIND;
    private static final int NONE = Fens.NONE;
    private static final int STATE = Fens.STATE;
    private static final int MISSING = Fens.MISSING;
    private static final int SIZE = Fens.SIZE;
    /** Not a pond, and so on: the nearest that is none on either side, and the furthest. */
    private static final int[] NO_POND = {-1, 16, MIN, MAX};
    private static final int[] NO_THING = {-1, 3, MIN, MAX};
    private static final int[] NO_KIND = {-1, 7, MIN, MAX};
    private static final int[] NO_SPOT = {-1, 10, MIN, MAX};
    private static final int[] NO_SHEET = {-1, 4, MIN, MAX};

    public static void main(String[] args) {
        numbers();
        ponds();
        things();
        minutes();
        chains();
        foresight();
        sights();
        eyesAndFalls();
        tape();
        spots();
        sheets();
        copies();
        images();
        due.end();
    }

    private static void numbers() {
        due.is("LOW BEYOND", -1000001, new PondLenses().pond(-1, 0));
        due.is("LOW in longs", -1000001L, new PondLenses().odds(-1, 0));
        int[] each = {BEYOND, FULL, KIND, NONE, STATE, MISSING, SIZE};
        for (int i = 0; i < 7; i++) {
            due.is("LOW less " + i, -1000001 - i, each[i]);
        }
    }

    private static void refused(String call, long want, ToLongFunction<PondLenses> act) {
        refused(call, want, x -> { }, act);
    }

    private static void refused(String call, long want, Consumer<PondLenses> ahead, ToLongFunction<PondLenses> act) {
        PondLenses as = Fens.lived();
        ahead.accept(as);
        PondLenses x = Fens.lived();
        ahead.accept(x);
        int all = x.status(-1);
        int which = (int) (Fens.BEYOND - want);
        int ofThese = x.status(which);
        due.is(call, want, act.applyAsLong(x));
        String counted = "status -1=" + (all + 1) + ", status " + which + "=" + (ofThese + 1);
        List<String> before = Look.at(as);
        due.says("behind " + call, counted, Look.changes(before, Look.at(x)));
    }

    private static void ponds() {
        for (int no : NO_POND) {
            refused("2 pond " + no, BEYOND, x -> x.pond(no, 0));
            refused("3 pond " + no, BEYOND, x -> x.dig(no, 1, 3));
            refused("4 pond " + no, BEYOND, x -> x.thing(0, no));
            refused("3 shows " + no, BEYOND, x -> x.dig(3, 0, no));
            refused("3 ditch to " + no, BEYOND, x -> x.dig(3, 4, no));
        }
        for (int no : new int[] {-1, 8, MIN, MAX}) {
            refused("2 what " + no, BEYOND, x -> x.pond(3, no));
        }
        for (int pond : new int[] {0, 1, 15}) {
            refused("3 itself " + pond, BEYOND, x -> x.dig(pond, 0, pond));
        }
        int[] least = {0, 1, 0, 0, 0, 0};
        int[] most = {15, 9, 3, 1, 15, 99};
        for (int what = 1; what <= 5; what++) {
            int is = what;
            refused("3 below of " + is, BEYOND, x -> x.dig(3, is, least[is] - 1));
            refused("3 above of " + is, BEYOND, x -> x.dig(3, is, most[is] + 1));
            refused("3 far below of " + is, BEYOND, x -> x.dig(3, is, MIN));
            refused("3 far above of " + is, BEYOND, x -> x.dig(3, is, MAX));
        }
        for (int no : new int[] {-1, 6, 7, MIN, MAX}) {
            refused("3 what " + no, BEYOND, x -> x.dig(3, no, 1));
        }
        for (int no : new int[] {-1, 2, MIN, MAX}) {
            refused("7 rain " + no, BEYOND, x -> x.rain(no));
        }
    }

    private static void fill(PondLenses x) {
        while (x.count(1) < 8) {
            x.thing(0, 0);
        }
    }

    private static void things() {
        for (int no : NO_KIND) {
            refused("4 kind " + no, BEYOND, x -> x.thing(no, 3));
            refused("4 kind " + no + " ahead of full", BEYOND, FindingsTest::fill, x -> x.thing(no, 3));
            refused("6 kind " + no, BEYOND, x -> x.change(1, 0, no));
        }
        refused("4 full", FULL, FindingsTest::fill, x -> x.thing(0, 0));
        refused("4 pond ahead of full", BEYOND, FindingsTest::fill, x -> x.thing(0, 16));
        refused("5 thing 8", BEYOND, FindingsTest::fill, x -> x.of(8, 0));
        refused("6 thing 8", BEYOND, FindingsTest::fill, x -> x.change(8, 0, 0));
        for (int no : NO_THING) {
            refused("5 thing " + no, BEYOND, x -> x.of(no, 0));
            refused("6 thing " + no, BEYOND, x -> x.change(no, 2, 9));
        }
        for (int no : new int[] {-1, 5, MIN, MAX}) {
            refused("5 what " + no, BEYOND, x -> x.of(1, no));
        }
        for (int no : new int[] {-1, 3, MIN, MAX}) {
            refused("6 what " + no, BEYOND, x -> x.change(1, no, 1));
        }
        for (int no : NO_POND) {
            refused("6 pond " + no, BEYOND, x -> x.change(1, 1, no));
        }
        for (int no : new int[] {-1, 0, 100, MIN, MAX}) {
            refused("6 length " + no, BEYOND, x -> x.change(1, 2, no));
        }
    }

    /** Minute 99960: more than 512 calls lie behind, as no fewer bring it there. */
    private static void late(PondLenses x) {
        while (x.now(0) <= 99960 - 60) {
            x.go(60);
        }
        x.go(99960 - x.now(0));
    }

    private static void minutes() {
        for (int no : new int[] {-1, 0, 61, MIN, MAX}) {
            refused("8 n " + no, BEYOND, x -> x.go(no));
        }
        for (int no : new int[] {-1, 5, MIN, MAX}) {
            refused("9 what " + no, BEYOND, x -> x.now(no));
        }
        refused("8 a minute too many", STATE, FindingsTest::late, x -> x.go(40));
        refused("8 all too many", STATE, FindingsTest::late, x -> x.go(60));
        refused("8 n ahead of the minute", BEYOND, FindingsTest::late, x -> x.go(61));
        refused("30 a minute too many", STATE, x -> {
            late(x);
            x.go(20);
        }, x -> x.falls(20));
        refused("30 n ahead of the minute", BEYOND, x -> {
            late(x);
            x.go(39);
        }, x -> x.falls(21));
    }

    private static void chains() {
        for (int no : NO_POND) {
            refused("10 pond " + no, BEYOND, x -> x.chain(no, 1, 0));
            refused("11 pond " + no, BEYOND, x -> x.through(no, 1));
            refused("12 pond " + no, BEYOND, x -> x.upright(no));
            refused("13 pond " + no, BEYOND, x -> x.large(no, 0, 1));
            refused("14 pond " + no, BEYOND, x -> x.round(no));
            refused("16 pond " + no, BEYOND, x -> x.before(no));
            refused("17 pond " + no, BEYOND, x -> x.shownBy(no));
        }
        for (int no : new int[] {-1, 17, MIN, MAX}) {
            refused("10 i " + no, BEYOND, x -> x.chain(5, no, 0));
            refused("13 i " + no, BEYOND, x -> x.large(5, no, 1));
        }
        for (int no : new int[] {-1, 4, MIN, MAX}) {
            refused("10 what " + no, BEYOND, x -> x.chain(5, 1, no));
        }
        for (int no : NO_THING) {
            refused("11 thing " + no, BEYOND, x -> x.through(5, no));
            refused("13 thing " + no, BEYOND, x -> x.large(5, 1, no));
        }
        refused("11 none", NONE, x -> x.dig(9, 0, 8), x -> x.through(8, 1));
        refused("12 none", NONE, x -> {
            x.dig(14, 2, 1);
            x.dig(0, 0, 15);
        }, x -> x.upright(14));
        refused("13 elsewhere", STATE, x -> x.large(4, 0, 1));
        refused("13 elsewhere", STATE, x -> x.large(4, 16, 1));
        refused("13 i ahead of elsewhere", BEYOND, x -> x.large(4, 17, 1));
    }

    private static void foresight() {
        for (int no : NO_THING) {
            refused("18 thing " + no, BEYOND, x -> x.ahead(no, 1));
            refused("19 thing " + no, BEYOND, x -> x.comes(no, 2));
            refused("20 thing " + no, BEYOND, x -> x.seen(no, 2));
            refused("21 first thing " + no, BEYOND, x -> x.meet(no, 1));
            refused("21 other thing " + no, BEYOND, x -> x.meet(1, no));
            refused("22 thing " + no, BEYOND, x -> x.cast(no, 1));
            refused("23 thing " + no, BEYOND, x -> x.kindFor(no));
            refused("28 thing " + no, BEYOND, x -> x.dredge(no, 0));
        }
        for (int thing = 0; thing < 3; thing++) {
            int same = thing;
            refused("21 one and the same " + same, BEYOND, x -> x.meet(same, same));
        }
        for (int no : NO_POND) {
            refused("19 pond " + no, BEYOND, x -> x.comes(1, no));
            refused("20 pond " + no, BEYOND, x -> x.seen(1, no));
        }
        for (int no : new int[] {-1, 101, MIN, MAX}) {
            refused("18 n " + no, BEYOND, x -> x.ahead(1, no));
        }
        for (int no : new int[] {-1, 0, 101, MIN, MAX}) {
            refused("22 n " + no, BEYOND, x -> x.cast(1, no));
        }
        refused("19 never", NONE, x -> x.rain(0), x -> x.comes(1, 6));
        refused("20 never", NONE, x -> x.rain(0), x -> x.seen(1, 5));
        refused("21 never", NONE, x -> {
            x.rain(0);
            x.change(0, 0, 0);
        }, x -> x.meet(0, 1));
    }

    private static void sights() {
        for (int no : NO_SHEET) {
            refused("24 sheet " + no, BEYOND, x -> x.fits(no, 1));
            refused("25 sheet " + no, BEYOND, x -> x.lens(no, 1));
            refused("26 sheet " + no, BEYOND, x -> x.which(no));
        }
        refused("24 missing", MISSING, x -> x.fits(3, 1));
        refused("25 missing", MISSING, x -> x.lens(3, 1));
        refused("26 missing", MISSING, x -> x.which(3));
        for (int no : NO_POND) {
            refused("24 pond " + no, BEYOND, x -> x.fits(0, no));
            refused("25 pond " + no, BEYOND, x -> x.lens(0, no));
            refused("24 missing ahead of pond " + no, MISSING, x -> x.fits(3, no));
            refused("25 missing ahead of pond " + no, MISSING, x -> x.lens(3, no));
        }
        // Thing 5 is told, and there is none.
        refused("25 none", NONE, x -> x.write(0, 0, 32), x -> x.lens(0, 3));
    }

    private static void eyesAndFalls() {
        refused("27 one is seen nowhere", NONE, x -> {
            x.dig(4, 0, 3);
            x.dig(1, 0, 3);
        }, x -> x.eyes());
        for (int no : new int[] {-1, 2, MIN, MAX}) {
            refused("28 what " + no, BEYOND, x -> x.dredge(1, no));
            refused("31 what " + no, BEYOND, x -> x.odds(1, no));
        }
        for (int no : new int[] {-1, 0, 41, MIN, MAX}) {
            refused("29 n " + no, BEYOND, x -> x.watch(no));
        }
        for (int no : new int[] {-1, 0, 21, MIN, MAX}) {
            refused("30 n " + no, BEYOND, x -> x.falls(no));
        }
        for (int no : new int[] {-1, 13, MIN, MAX}) {
            refused("31 n " + no, BEYOND, x -> x.odds(no, 0));
        }
    }

    /** The tape has this many bytes then, and still tells of pond 9. */
    private static void feedTo(PondLenses x, int bytes) {
        while (x.count(5) < bytes) {
            x.feed(' ', 1);
        }
    }

    private static void tape() {
        for (int no : new int[] {-1, 0, 5, MIN, MAX}) {
            refused("33 n " + no, BEYOND, x -> x.feed(0x20202020, no));
            refused("33 n " + no + " ahead of full", BEYOND, x -> feedTo(x, 120), x -> x.feed(0x20202020, no));
        }
        for (int i = 1; i <= 4; i++) {
            int n = i;
            refused("33 full, " + n + " more", FULL, x -> feedTo(x, 120), x -> x.feed(0x20202020, n));
            refused("33 too many by one, " + n, FULL, x -> feedTo(x, 121 - n), x -> x.feed(0x20202020, n));
        }
    }

    private static void spots() {
        for (int no : NO_SPOT) {
            refused("36 spot " + no, BEYOND, x -> x.hold(no, 1));
            refused("36 spot " + no + " and nothing", BEYOND, x -> x.hold(no, -1));
            refused("37 spot " + no, BEYOND, x -> x.as(no, 0));
        }
        for (int no : new int[] {-2, 3, MIN, MAX}) {
            refused("36 thing " + no, BEYOND, x -> x.hold(1, no));
        }
        for (int no : NO_KIND) {
            refused("37 kind " + no, BEYOND, x -> x.as(1, no));
            refused("37 kind " + no + " ahead of missing", BEYOND, x -> x.as(0, no));
        }
        refused("37 missing", MISSING, x -> x.as(0, 0));
        refused("37 missing again", MISSING, x -> x.hold(1, -1), x -> x.as(1, 6));
        refused("37 a pike as a duck", KIND, x -> x.as(1, 2));
        refused("37 a frog as a heron", KIND, x -> x.as(4, 4));
    }

    private static void sheets() {
        for (int no : NO_SHEET) {
            refused("38 sheet " + no, BEYOND, x -> x.sheet(no, 8, 1));
            refused("38 sheet " + no + " ahead of size", BEYOND, x -> x.sheet(no, 8, -1));
            refused("39 sheet " + no, BEYOND, x -> x.write(no, 0, 1));
            refused("41 sheet " + no, BEYOND, x -> x.load(no));
            refused("42 sheet " + no, BEYOND, x -> x.judge(no));
        }
        for (int no : new int[] {-1, 1, 7, 9, 24, 33, 64, -8, -16, -32, MIN, MAX}) {
            refused("38 bits " + no, BEYOND, x -> x.sheet(0, no, 1));
            refused("38 bits " + no + " ahead of size", BEYOND, x -> x.sheet(0, no, -1));
        }
        for (int bits : new int[] {0, 8, 16, 32}) {
            refused("38 n -1 of " + bits, SIZE, x -> x.sheet(0, bits, -1));
            refused("38 n far below 0 of " + bits, SIZE, x -> x.sheet(0, bits, MIN));
            refused("38 n 41 of " + bits, BEYOND, x -> x.sheet(0, bits, 41));
            refused("38 n far above 40 of " + bits, BEYOND, x -> x.sheet(0, bits, MAX));
        }
        refused("39 missing", MISSING, x -> x.write(3, 0, 1));
        refused("41 missing", MISSING, x -> x.load(3));
        refused("42 missing", MISSING, x -> x.judge(3));
        for (int no : new int[] {-1, 3, 40, MIN, MAX}) {
            refused("39 number " + no, BEYOND, x -> x.write(0, no, 1));
            refused("39 missing ahead of number " + no, MISSING, x -> x.write(3, no, 1));
        }
        refused("39 of an empty one", BEYOND, x -> x.sheet(3, 8, 0), x -> x.write(3, 0, 1));
        refused("39 behind the last of 40", BEYOND, x -> x.sheet(3, 8, 40), x -> x.write(3, 40, 1));
    }

    private static void copies() {
        for (int no : NO_SHEET) {
            refused("40 from sheet " + no, BEYOND, x -> x.copy(no, 0, 0, 0, 1));
            refused("40 to sheet " + no, BEYOND, x -> x.copy(0, 0, no, 0, 1));
            refused("40 sheet " + no + " ahead of missing", BEYOND, x -> x.copy(3, 0, no, 0, 1));
            refused("40 sheet " + no + " ahead of missing", BEYOND, x -> x.copy(no, 0, 3, 0, 1));
        }
        refused("40 from a missing one", MISSING, x -> x.copy(3, 0, 0, 0, 0));
        refused("40 to a missing one", MISSING, x -> x.copy(0, 0, 3, 0, 0));
        refused("40 missing both", MISSING, x -> x.copy(3, 0, 3, 0, 0));
        refused("40 missing ahead of the places", MISSING, x -> x.copy(0, -1, 3, -1, -1));
        refused("40 8 to 16", KIND, x -> x.copy(0, 0, 1, 0, 1));
        refused("40 32 to 16", KIND, x -> x.copy(2, 0, 1, 0, 1));
        refused("40 8 to 32, none", KIND, x -> x.copy(0, 0, 2, 0, 0));
        refused("40 bits ahead of the places", KIND, x -> x.copy(0, -1, 1, 99, -1));
        Consumer<PondLenses> alike = x -> Fens.row(x, 3, 8, 1, 2, 3, 4, 5);
        for (int no : new int[] {-1, MIN}) {
            refused("40 from " + no, BEYOND, alike, x -> x.copy(0, no, 3, 0, 1));
            refused("40 to " + no, BEYOND, alike, x -> x.copy(0, 0, 3, no, 1));
            refused("40 n " + no, BEYOND, alike, x -> x.copy(0, 1, 3, 1, no));
        }
        refused("40 from -1, none", BEYOND, alike, x -> x.copy(0, -1, 3, 0, 0));
        refused("40 to -1, none", BEYOND, alike, x -> x.copy(0, 0, 3, -1, 0));
        refused("40 the one has not so many", BEYOND, alike, x -> x.copy(0, 0, 3, 0, 4));
        refused("40 the one has not so many from there on", BEYOND, alike, x -> x.copy(0, 1, 3, 0, 3));
        refused("40 the other has not so many", BEYOND, alike, x -> x.copy(3, 0, 0, 0, 4));
        refused("40 the other has not so many from there on", BEYOND, alike, x -> x.copy(0, 0, 3, 3, 3));
        refused("40 from behind the end", BEYOND, alike, x -> x.copy(0, 4, 3, 0, 0));
        refused("40 to behind the end", BEYOND, alike, x -> x.copy(0, 0, 3, 6, 0));
        for (int far : new int[] {MAX, MAX - 1, MAX - 3}) {
            refused("40 from " + far, BEYOND, alike, x -> x.copy(0, far, 3, 0, 4));
            refused("40 to " + far, BEYOND, alike, x -> x.copy(0, 0, 3, far, 3));
            refused("40 n " + far, BEYOND, alike, x -> x.copy(0, 3, 3, 5, far));
        }
    }

    private static void images() {
        refused("44 torn", NONE, x -> x.tear(), x -> x.undo());
        for (int no : new int[] {-1, 8, MIN, MAX}) {
            refused("46 what " + no, BEYOND, x -> x.count(no));
        }
        for (int no : new int[] {-2, 7, MIN, MAX}) {
            refused("47 which " + no, BEYOND, x -> x.status(no));
        }
    }
}
