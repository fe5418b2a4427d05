/** Promises 10 to 17: chains and rounds. */
public final class ChainsTest {
    private static final Due due = new Due();

    public static void main(String[] args) {
        promise10();
        promise11();
        promise12();
        promise13();
        promises14To16();
        promise17();
        due.end();
    }

    private static void promise10() {
        PondLenses x = new PondLenses();
        for (int what = 0; what <= 3; what++) {
            int[] none = {6, 81, 0, 0};
            due.is("10 no step " + what, none[what], x.chain(6, 0, what));
        }
        due.is("10 end", 3, x.chain(3, 16, 0));
        due.is("10 end", 2, x.chain(15, 3, 0));
        x.dig(0, 1, 1);
        x.dig(1, 1, 9);
        x.dig(2, 1, 2);
        x.dig(3, 1, 1);
        due.is("10 size 1", 27, x.chain(0, 1, 1));
        due.is("10 size 2", 81, x.chain(0, 2, 1));
        due.is("10 size 3", 54, x.chain(0, 3, 1));
        due.is("10 size 4", 18, x.chain(0, 4, 1));
        x.dig(4, 1, 4);
        x.dig(5, 1, 5);
        due.is("10 size 6", 18 * 4 / 3 * 5 / 3, x.chain(0, 6, 1));
        x.dig(6, 1, 1);
        x.dig(7, 1, 4);
        due.is("10 size cut each step", 40 / 3 * 4 / 3, x.chain(0, 8, 1));
        turns();
        sizesAtMost();
        due.is("10 pond 16", Fens.BEYOND, x.chain(16, 0, 0));
        due.is("10 pond -1", Fens.BEYOND, x.chain(-1, 0, 0));
        due.is("10 i 17", Fens.BEYOND, x.chain(0, 17, 0));
        due.is("10 i -1", Fens.BEYOND, x.chain(0, -1, 0));
        due.is("10 what 4", Fens.BEYOND, x.chain(0, 0, 4));
        due.is("10 what -1", Fens.BEYOND, x.chain(0, 0, -1));
    }

    private static void turns() {
        PondLenses x = new PondLenses();
        x.dig(0, 2, 3);
        x.dig(1, 2, 2);
        x.dig(1, 3, 1);
        x.dig(2, 2, 3);
        x.dig(3, 2, 1);
        x.dig(3, 3, 1);
        x.dig(4, 2, 3);
        int[] turned = {0, 3, 1, 2, 1, 0};
        int[] flipped = {0, 0, 1, 1, 0, 0};
        for (int i = 0; i <= 5; i++) {
            due.is("10 turned " + i, turned[i], x.chain(0, i, 2));
            due.is("10 flipped " + i, flipped[i], x.chain(0, i, 3));
        }
    }

    private static void sizesAtMost() {
        PondLenses x = new PondLenses();
        for (int pond = 0; pond < 16; pond++) {
            x.dig(pond, 1, 9);
        }
        due.is("10 size", 81 * 729, x.chain(0, 6, 1));
        due.is("10 size at most", 99999, x.chain(0, 7, 1));
        due.is("10 size at most", 99999, x.chain(0, 16, 1));
        x.dig(7, 1, 1);
        due.is("10 smaller again", 33333, x.chain(0, 8, 1));
    }

    private static void promise11() {
        PondLenses x = new PondLenses();
        due.is("11 no thing", Fens.BEYOND, x.through(0, 0));
        x.thing(0, 5);
        due.is("11 one step", 1, x.through(4, 0));
        due.is("11 more", 5, x.through(0, 0));
        due.is("11 all the way round", 16, x.through(5, 0));
        x.dig(3, 0, 2);
        due.is("11 none", Fens.NONE, x.through(0, 0));
        due.is("11 pond 16", Fens.BEYOND, x.through(16, 0));
        due.is("11 pond -1", Fens.BEYOND, x.through(-1, 0));
        due.is("11 thing 1", Fens.BEYOND, x.through(0, 1));
    }

    private static void promise12() {
        PondLenses x = new PondLenses();
        due.is("12 one", 1, x.upright(0));
        x.dig(0, 2, 3);
        due.is("12 turned", Fens.NONE, x.upright(0));
        due.is("12 none yet", 1, x.upright(1));
        x.dig(4, 2, 1);
        due.is("12 turned back", 5, x.upright(0));
        x.dig(2, 3, 1);
        due.is("12 flipped", Fens.NONE, x.upright(0));
        x.dig(6, 3, 1);
        due.is("12 less", Fens.NONE, x.upright(0));
        x.dig(4, 2, 3);
        due.is("12 both", 7, x.upright(0));
        PondLenses y = new PondLenses();
        y.dig(5, 3, 1);
        y.dig(4, 3, 1);
        due.is("12 sixteen at most", 16, evenOnlyAtTheEnd().upright(5));
        due.is("12 flipped twice", 2, y.upright(4));
        due.is("12 pond 16", Fens.BEYOND, y.upright(16));
        due.is("12 pond -1", Fens.BEYOND, y.upright(-1));
    }

    /** Turned by the first pond of a chain from 5, and back by the sixteenth. */
    private static PondLenses evenOnlyAtTheEnd() {
        PondLenses x = new PondLenses();
        x.dig(5, 2, 2);
        x.dig(4, 2, 2);
        return x;
    }

    private static void promise13() {
        PondLenses x = new PondLenses();
        due.is("13 no thing", Fens.BEYOND, x.large(0, 0, 0));
        x.thing(0, 2);
        due.is("13 itself", 9, x.large(2, 0, 0));
        due.is("13 as large", 9, x.large(0, 2, 0));
        x.dig(0, 1, 9);
        x.dig(1, 1, 4);
        due.is("13 larger", 36, x.large(0, 2, 0));
        x.dig(0, 1, 1);
        x.change(0, 2, 10);
        due.is("13 cut", 360 / 81, x.large(0, 2, 0));
        due.is("13 elsewhere", Fens.STATE, x.large(0, 1, 0));
        due.is("13 round", 4, x.large(2, 16, 0));
        due.is("13 i 17", Fens.BEYOND, x.large(1, 17, 0));
        due.is("13 i -1", Fens.BEYOND, x.large(2, -1, 0));
        due.is("13 pond 16", Fens.BEYOND, x.large(16, 0, 0));
        due.is("13 pond -1", Fens.BEYOND, x.large(-1, 0, 0));
        due.is("13 thing 1", Fens.BEYOND, x.large(2, 0, 1));
        due.is("13 beyond ahead of state", Fens.BEYOND, x.large(0, 17, 0));
    }

    private static void promises14To16() {
        PondLenses x = new PondLenses();
        due.is("14 whole", 16, x.round(7));
        due.is("15 one", 1, x.rounds());
        due.is("16 of it", 0, x.before(7));
        x.dig(5, 0, 2);
        due.is("14 four", 4, x.round(5));
        due.is("14 from outside", 4, x.round(6));
        due.is("15 still one", 1, x.rounds());
        due.is("16 of it", 0, x.before(2));
        due.is("16 ahead", 1, x.before(1));
        due.is("16 far ahead", 12, x.before(6));
        x.dig(15, 0, 14);
        due.is("14 two", 2, x.round(14));
        due.is("14 two from 6", 2, x.round(6));
        due.is("14 four stays", 4, x.round(0));
        due.is("15 two", 2, x.rounds());
        due.is("16 of the second", 0, x.before(15));
        due.is("16 from 6", 8, x.before(6));
        for (int pond = 0; pond < 16; pond++) {
            x.dig(pond, 0, pond ^ 1);
        }
        due.is("15 eight", 8, x.rounds());
        PondLenses y = new PondLenses();
        y.dig(15, 0, 14);
        due.is("16 fourteen", 14, y.before(0));
        due.is("14 pond 16", Fens.BEYOND, x.round(16));
        due.is("14 pond -1", Fens.BEYOND, x.round(-1));
        due.is("16 pond 16", Fens.BEYOND, x.before(16));
        due.is("16 pond -1", Fens.BEYOND, x.before(-1));
        due.is("15 finds nothing", 4, x.status(-1));
    }

    private static void promise17() {
        PondLenses x = new PondLenses();
        due.is("17 all", 65535, x.shownBy(9));
        x.dig(15, 0, 14);
        due.is("17 itself alone", 1, x.shownBy(0));
        due.is("17 some", 15, x.shownBy(3));
        due.is("17 the round", 65535, x.shownBy(14));
        x.dig(12, 0, 3);
        due.is("17 a round", 8191, x.shownBy(3));
        due.is("17 behind it", 8192, x.shownBy(13));
        due.is("17 pond 16", Fens.BEYOND, x.shownBy(16));
        due.is("17 pond -1", Fens.BEYOND, x.shownBy(-1));
    }
}
