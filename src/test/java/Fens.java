/** What the tests share: the findings, texts on the tape, and fens by draws. */
final class Fens {
    static final int BEYOND = -1000001;
    static final int FULL = BEYOND - 1;
    static final int KIND = BEYOND - 2;
    static final int NONE = BEYOND - 3;
    static final int STATE = BEYOND - 4;
    static final int MISSING = BEYOND - 5;
    static final int SIZE = BEYOND - 6;

    private long state;

    Fens(long start) {
        state = start;
    }

    /** A number from 0 to below n. */
    int draw(int n) {
        state = state * 6364136223846793005L + 1442695040888963407L;
        return (int) Math.floorMod(state >>> 33, (long) n);
    }

    /** A fen that isn't as at first in anything that later answers ask for. */
    PondLenses fen() {
        PondLenses x = new PondLenses();
        int close = 1 + draw(16);
        for (int pond = 0; pond < 16; pond++) {
            int shown = draw(close);
            if (shown != pond) {
                x.dig(pond, 0, shown);
            }
            x.dig(pond, 1, 1 + draw(9));
            x.dig(pond, 2, draw(4));
            x.dig(pond, 3, draw(2));
            x.dig(pond, 4, draw(16));
            x.dig(pond, 5, draw(100));
        }
        int things = 1 + draw(8);
        for (int thing = 0; thing < things; thing++) {
            x.thing(draw(7), draw(16));
            x.change(thing, 2, 1 + draw(99));
        }
        if (draw(3) == 0) {
            x.rain(1);
        }
        if (draw(2) == 0) {
            x.go(1);
        }
        return x;
    }

    /**
     * A fen in which all that can be kept is other than at first: a frog in pond 2, a long fish in 5, a
     * pike in 4, spots, three sheets, a tape and an image of how it was earlier.
     */
    static PondLenses lived() {
        PondLenses x = new PondLenses();
        x.thing(3, 2);
        x.dig(7, 0, 4);
        x.dig(8, 5, 33);
        x.hold(4, 0);
        x.seed(42);
        x.go(1);
        x.image();
        x.thing(1, 5);
        x.thing(6, 4);
        x.change(1, 2, 20);
        x.dig(1, 0, 5);
        x.dig(6, 1, 5);
        x.dig(6, 2, 2);
        x.dig(6, 3, 1);
        x.dig(12, 4, 11);
        x.hold(1, 2);
        x.seed(-7);
        x.rain(1);
        x.go(2);
        x.change(0, 1, 2);
        x.change(1, 1, 5);
        x.change(2, 1, 4);
        row(x, 0, 8, 5, 6, 7);
        row(x, 1, 16, 1, 2, 3, 4);
        row(x, 2, 32, 8, 9);
        feed(x, "pond 9 depth 7");
        return x;
    }

    /**
     * Here a heron (thing 1) swims round ponds 1 to 7, two minutes each, and a fish (thing 0) round 0 and
     * 8 to 15, a minute each. Once the fish is in 0 when the heron leaves 5, which pond 0 shows, the heron
     * follows it: to 0, a minute on to 8, one more to 9. Until then up to 98 minutes may pass.
     */
    static PondLenses chase(int fish, int heron) {
        PondLenses x = new PondLenses();
        x.thing(1, fish);
        x.thing(4, heron);
        x.dig(7, 0, 1);
        x.dig(0, 0, 5);
        x.dig(8, 0, 0);
        x.dig(0, 4, 8);
        for (int pond = 8; pond < 16; pond++) {
            x.dig(pond, 4, (pond + 1) % 16);
            if (pond > 8) {
                x.dig(pond, 0, pond - 1);
            }
        }
        return x;
    }

    static void feed(PondLenses x, String text) {
        for (int from = 0; from < text.length(); from += 4) {
            int n = Math.min(4, text.length() - from);
            int bytes = 0;
            for (int i = from; i < from + n; i++) {
                bytes = bytes << 8 | text.charAt(i);
            }
            x.feed(bytes, n);
        }
    }

    static int read(PondLenses x, String text) {
        feed(x, text);
        return x.text();
    }

    /** Sheet s becomes a row of these numbers, of 32 bits. */
    static void tell(PondLenses x, int s, int... numbers) {
        row(x, s, 32, numbers);
    }

    static void row(PondLenses x, int s, int bits, int... numbers) {
        x.sheet(s, bits, numbers.length);
        for (int i = 0; i < numbers.length; i++) {
            x.write(s, i, numbers[i]);
        }
    }
}
