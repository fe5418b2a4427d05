/** Promises 10 to 17: chains and rounds. */
public final class ChainsTest {
    private static final Due due = new Due();

    public static void main(String[] args) {
        promise10();
        promise11();
        promise12();
        promise13();
        promises14To16();
        promise17();
        due.end();
    }

    private static void promise10() {
        PondLenses x = new PondLenses();
        for (int what = 0; what <= 3; what++) {
            int[] none = {6, 81, 0, 0};
            due.is("10 no step " + what, none[what], x.chain(6, 0, what));
        }
        due.is("10 end", 3, x.chain(3, 16, 0));
        due.is("10 end", 2, x.chain(15, 3, 0));
        x.dig(0, 1, 1);
        x.dig(1, 1, 9);
        x.dig(2, 1, 2);
        x.dig(3, 1, 1);
        due.is("10 size 1", 27, x.chain(0, 1, 1));
        due.is("10 size 2", 81, x.chain(0, 2, 1));
        due.is("10 size 3", 54, x.chain(0, 3, 1));
        due.is("10 size 4", 18, x.chain(0, 4, 1));
        x.dig(4, 1, 4);
        x.dig(5, 1, 5);
        due.is("10 size 6", 18 * 4 / 3 * 5 / 3, x.chain(0, 6, 1));
        x.dig(6, 1, 1);
        x.dig(7, 1, 4);
        due.is("10 size cut each step", 40 / 3 * 4 / 3, x.chain(0, 8, 1));
        turns();
        turnsBack();
        sizesAtMost();
        sizesAtLeast();
        due.is("10 pond 16", Fens.BEYOND, x.chain(16, 0, 0));
        due.is("10 pond -1", Fens.BEYOND, x.chain(-1, 0, 0));
        due.is("10 i 17", Fens.BEYOND, x.chain(0, 17, 0));
        due.is("10 i -1", Fens.BEYOND, x.chain(0, -1, 0));
        due.is("10 what 4", Fens.BEYOND, x.chain(0, 0, 4));
        due.is("10 what -1", Fens.BEYOND, x.chain(0, 0, -1));
    }

    private static void turns() {
        PondLenses x = new PondLenses();
        x.dig(0, 2, 3);
        x.dig(1, 2, 2);
        x.dig(1, 3, 1);
        x.dig(2, 2, 3);
        x.dig(3, 2, 1);
        x.dig(3, 3, 1);
        x.dig(4, 2, 3);
        int[] turned = {0, 3, 1, 2, 1, 0};
        int[] flipped = {0, 0, 1, 1, 0, 0};
        for (int i = 0; i <= 5; i++) {
            due.is("10 turned " + i, turned[i], x.chain(0, i, 2));
            due.is("10 flipped " + i, flipped[i], x.chain(0, i, 3));
        }
    }

    private static void sizesAtMost() {
        PondLenses x = new PondLenses();
        for (int pond = 0; pond < 16; pond++) {
            x.dig(pond, 1, 9);
        }
        due.is("10 size", 81 * 729, x.chain(0, 6, 1));
        due.is("10 size at most", 99999, x.chain(0, 7, 1));
        due.is("10 size at most", 99999, x.chain(0, 16, 1));
        x.dig(7, 1, 1);
        due.is("10 smaller again", 33333, x.chain(0, 8, 1));
    }

    /** Less than no turn is three; a flip counts from the next step on, and two are none. */
    private static void turnsBack() {
        PondLenses x = new PondLenses();
        x.dig(0, 3, 1);
        x.dig(1, 2, 1);
        due.is("10 flipped", 1, x.chain(0, 1, 3));
        due.is("10 not turned yet", 0, x.chain(0, 1, 2));
        due.is("10 one less than none", 3, x.chain(0, 2, 2));
        x.dig(1, 2, 3);
        due.is("10 three less than none", 1, x.chain(0, 2, 2));
        x.dig(1, 2, 2);
        due.is("10 two less than none", 2, x.chain(0, 2, 2));
        x.dig(0, 2, 3);
        due.is("10 turned ahead of flipped", 3, x.chain(0, 1, 2));
        due.is("10 less", 1, x.chain(0, 2, 2));
        x.dig(1, 3, 1);
        due.is("10 less ahead of the second flip", 1, x.chain(0, 2, 2));
        due.is("10 two flips", 0, x.chain(0, 2, 3));
        x.dig(2, 2, 3);
        due.is("10 more again: four is none", 0, x.chain(0, 3, 2));
        x.dig(2, 3, 1);
        due.is("10 three flips", 1, x.chain(0, 3, 3));
        PondLenses all = new PondLenses();
        for (int pond = 0; pond < 16; pond++) {
            all.dig(pond, 2, 3);
            all.dig(pond, 3, 1);
        }
        for (int i = 0; i <= 16; i++) {
            due.is("10 all turned and flipped, turned " + i, i % 2 == 0 ? 0 : 3, all.chain(9, i, 2));
            due.is("10 all turned and flipped, flipped " + i, i % 2, all.chain(9, i, 3));
        }
    }

    /** Each of 1 third: 81, 27, 9, 3, 1, and 0 from then on. */
    private static void sizesAtLeast() {
        PondLenses x = new PondLenses();
        for (int pond = 0; pond < 16; pond++) {
            x.dig(pond, 1, 1);
        }
        int[] size = {81, 27, 9, 3, 1, 0, 0};
        for (int i = 0; i < size.length; i++) {
            due.is("10 small, " + i, size[i], x.chain(14, i, 1));
        }
        due.is("10 small, 16", 0, x.chain(14, 16, 1));
        x.thing(0, 3);
        x.change(0, 2, 99);
        due.is("13 too small to see", 0, x.large(14, 5, 0));
        due.is("13 small", 1, x.large(15, 4, 0));
        x.change(0, 2, 80);
        due.is("13 small, cut", 0, x.large(15, 4, 0));
    }

    private static void promise11() {
        throughAtMost();
        PondLenses x = new PondLenses();
        due.is("11 no thing", Fens.BEYOND, x.through(0, 0));
        x.thing(0, 5);
        due.is("11 one step", 1, x.through(4, 0));
        due.is("11 more", 5, x.through(0, 0));
        due.is("11 all the way round", 16, x.through(5, 0));
        x.dig(3, 0, 2);
        due.is("11 none", Fens.NONE, x.through(0, 0));
        due.is("11 pond 16", Fens.BEYOND, x.through(16, 0));
        due.is("11 pond -1", Fens.BEYOND, x.through(-1, 0));
        due.is("11 thing 1", Fens.BEYOND, x.through(0, 1));
    }

    /** Where a chain never comes back to, nothing is seen through it; and its own pond counts last. */
    private static void throughAtMost() {
        PondLenses x = new PondLenses();
        x.thing(0, 0);
        x.thing(0, 15);
        x.dig(15, 0, 1);
        due.is("11 not in its own pond", Fens.NONE, x.through(0, 0));
        due.is("11 far", 15, x.through(0, 1));
        due.is("11 round again", 15, x.through(15, 1));
        x.dig(15, 0, 14);
        due.is("11 and back", 2, x.through(15, 1));
        due.is("11 not behind", Fens.NONE, x.through(1, 0));
    }

    private static void promise12() {
        uprightAtMost();
        PondLenses x = new PondLenses();
        due.is("12 one", 1, x.upright(0));
        x.dig(0, 2, 3);
        due.is("12 turned", Fens.NONE, x.upright(0));
        due.is("12 none yet", 1, x.upright(1));
        x.dig(4, 2, 1);
        due.is("12 turned back", 5, x.upright(0));
        x.dig(2, 3, 1);
        due.is("12 flipped", Fens.NONE, x.upright(0));
        x.dig(6, 3, 1);
        due.is("12 less", Fens.NONE, x.upright(0));
        x.dig(4, 2, 3);
        due.is("12 both", 7, x.upright(0));
        PondLenses y = new PondLenses();
        y.dig(5, 3, 1);
        y.dig(4, 3, 1);
        due.is("12 sixteen at most", 16, evenOnlyAtTheEnd().upright(5));
        due.is("12 flipped twice", 2, y.upright(4));
        due.is("12 pond 16", Fens.BEYOND, y.upright(16));
        due.is("12 pond -1", Fens.BEYOND, y.upright(-1));
    }

    /** Upright behind 17 steps would be one too many. */
    private static void uprightAtMost() {
        PondLenses x = new PondLenses();
        x.dig(0, 2, 1);
        x.dig(15, 2, 2);
        due.is("12 turned behind 16", 3, x.chain(0, 16, 2));
        due.is("12 seventeen", Fens.NONE, x.upright(0));
        x.dig(15, 2, 3);
        due.is("12 sixteen", 16, x.upright(0));
        PondLenses y = new PondLenses();
        y.dig(0, 3, 1);
        due.is("12 flipped alone", Fens.NONE, y.upright(0));
        y.dig(0, 3, 0);
        y.dig(0, 2, 1);
        due.is("12 turned alone", Fens.NONE, y.upright(0));
        y.dig(15, 0, 14);
        y.dig(15, 2, 1);
        due.is("12 not turned", 1, y.upright(14));
        due.is("12 four times about", 7, y.upright(15));
    }

    /** Turned by the first pond of a chain from 5, and back by the sixteenth. */
    private static PondLenses evenOnlyAtTheEnd() {
        PondLenses x = new PondLenses();
        x.dig(5, 2, 2);
        x.dig(4, 2, 2);
        return x;
    }

    private static void promise13() {
        PondLenses x = new PondLenses();
        due.is("13 no thing", Fens.BEYOND, x.large(0, 0, 0));
        x.thing(0, 2);
        due.is("13 itself", 9, x.large(2, 0, 0));
        due.is("13 as large", 9, x.large(0, 2, 0));
        x.dig(0, 1, 9);
        x.dig(1, 1, 4);
        due.is("13 larger", 36, x.large(0, 2, 0));
        x.dig(0, 1, 1);
        x.change(0, 2, 10);
        due.is("13 cut", 360 / 81, x.large(0, 2, 0));
        due.is("13 elsewhere", Fens.STATE, x.large(0, 1, 0));
        due.is("13 round", 4, x.large(2, 16, 0));
        largest();
        due.is("13 i 17", Fens.BEYOND, x.large(1, 17, 0));
        due.is("13 i -1", Fens.BEYOND, x.large(2, -1, 0));
        due.is("13 pond 16", Fens.BEYOND, x.large(16, 0, 0));
        due.is("13 pond -1", Fens.BEYOND, x.large(-1, 0, 0));
        due.is("13 thing 1", Fens.BEYOND, x.large(2, 0, 1));
        due.is("13 beyond ahead of state", Fens.BEYOND, x.large(0, 17, 0));
    }

    private static void largest() {
        PondLenses x = new PondLenses();
        for (int pond = 0; pond < 16; pond++) {
            x.dig(pond, 1, 9);
        }
        x.thing(0, 5);
        x.change(0, 2, 99);
        due.is("13 the largest", 99 * 99999 / 81, x.large(5, 16, 0));
        due.is("13 its own", 99, x.large(5, 0, 0));
        due.is("13 three times", 297, x.large(4, 1, 0));
        x.change(0, 2, 1);
        due.is("13 the least", 1, x.large(5, 0, 0));
        due.is("13 cut", 1234, x.large(14, 7, 0));
        due.is("13 elsewhere", Fens.STATE, x.large(5, 15, 0));
    }

    private static void promises14To16() {
        farthest();
        PondLenses x = new PondLenses();
        due.is("14 whole", 16, x.round(7));
        due.is("15 one", 1, x.rounds());
        due.is("16 of it", 0, x.before(7));
        x.dig(5, 0, 2);
        due.is("14 four", 4, x.round(5));
        due.is("14 from outside", 4, x.round(6));
        due.is("15 still one", 1, x.rounds());
        due.is("16 of it", 0, x.before(2));
        due.is("16 ahead", 1, x.before(1));
        due.is("16 far ahead", 12, x.before(6));
        x.dig(15, 0, 14);
        due.is("14 two", 2, x.round(14));
        due.is("14 two from 6", 2, x.round(6));
        due.is("14 four stays", 4, x.round(0));
        due.is("15 two", 2, x.rounds());
        due.is("16 of the second", 0, x.before(15));
        due.is("16 from 6", 8, x.before(6));
        for (int pond = 0; pond < 16; pond++) {
            x.dig(pond, 0, pond ^ 1);
        }
        due.is("15 eight", 8, x.rounds());
        PondLenses y = new PondLenses();
        y.dig(15, 0, 14);
        due.is("16 fourteen", 14, y.before(0));
        due.is("14 pond 16", Fens.BEYOND, x.round(16));
        due.is("14 pond -1", Fens.BEYOND, x.round(-1));
        due.is("16 pond 16", Fens.BEYOND, x.before(16));
        due.is("16 pond -1", Fens.BEYOND, x.before(-1));
        due.is("15 finds nothing", 4, x.status(-1));
    }

    /** The longest way to a round is of 14 steps, and the smallest round is of 2 ponds. */
    private static void farthest() {
        PondLenses x = new PondLenses();
        x.dig(15, 0, 14);
        for (int pond = 0; pond < 16; pond++) {
            due.is("16 ahead " + pond, Math.max(0, 14 - pond), x.before(pond));
            due.is("14 two " + pond, 2, x.round(pond));
            due.is("17 from where " + pond, pond < 14 ? (2 << pond) - 1 : 65535, x.shownBy(pond));
        }
        due.is("15 one", 1, x.rounds());
        x.dig(15, 0, 1);
        for (int pond = 0; pond < 16; pond++) {
            due.is("16 all but one " + pond, pond == 0 ? 1 : 0, x.before(pond));
            due.is("14 fifteen " + pond, 15, x.round(pond));
            due.is("17 all but one " + pond, pond == 0 ? 1 : 65535, x.shownBy(pond));
        }
        x.dig(15, 0, 0);
        for (int pond = 0; pond < 16; pond++) {
            due.is("16 all " + pond, 0, x.before(pond));
            due.is("14 sixteen " + pond, 16, x.round(pond));
            due.is("17 all, by 15 steps at most " + pond, 65535, x.shownBy(pond));
        }
        for (int pond = 1; pond < 16; pond++) {
            x.dig(pond, 0, 0);
        }
        due.is("15 a star", 1, x.rounds());
        due.is("14 of its middle", 2, x.round(0));
        due.is("16 of its middle", 0, x.before(0));
        due.is("16 of its second", 0, x.before(1));
        due.is("16 of the others", 1, x.before(15));
        due.is("17 of its middle", 65535, x.shownBy(0));
        due.is("17 of its second", 65535, x.shownBy(1));
        due.is("17 of the others", 1 << 15, x.shownBy(15));
    }

    private static void promise17() {
        PondLenses x = new PondLenses();
        due.is("17 all", 65535, x.shownBy(9));
        x.dig(15, 0, 14);
        due.is("17 itself alone", 1, x.shownBy(0));
        due.is("17 some", 15, x.shownBy(3));
        due.is("17 the round", 65535, x.shownBy(14));
        x.dig(12, 0, 3);
        due.is("17 a round", 8191, x.shownBy(3));
        due.is("17 behind it", 8192, x.shownBy(13));
        due.is("17 pond 16", Fens.BEYOND, x.shownBy(16));
        due.is("17 pond -1", Fens.BEYOND, x.shownBy(-1));
    }
}
