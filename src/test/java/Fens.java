/** What the tests share: the findings, texts on the tape, and fens by draws. */
final class Fens {
    static final int BEYOND = -1000001;
    static final int FULL = BEYOND - 1;
    static final int KIND = BEYOND - 2;
    static final int NONE = BEYOND - 3;
    static final int STATE = BEYOND - 4;
    static final int MISSING = BEYOND - 5;
    static final int SIZE = BEYOND - 6;

    private long state;

    Fens(long start) {
        state = start;
    }

    /** A number from 0 to below n. */
    int draw(int n) {
        state = state * 6364136223846793005L + 1442695040888963407L;
        return (int) Math.floorMod(state >>> 33, (long) n);
    }

    /** A fen that isn't as at first in anything that later answers ask for. */
    PondLenses fen() {
        PondLenses x = new PondLenses();
        int close = 1 + draw(16);
        for (int pond = 0; pond < 16; pond++) {
            int shown = draw(close);
            if (shown != pond) {
                x.dig(pond, 0, shown);
            }
            x.dig(pond, 1, 1 + draw(9));
            x.dig(pond, 2, draw(4));
            x.dig(pond, 3, draw(2));
            x.dig(pond, 4, draw(16));
            x.dig(pond, 5, draw(100));
        }
        int things = 1 + draw(8);
        for (int thing = 0; thing < things; thing++) {
            x.thing(draw(7), draw(16));
            x.change(thing, 2, 1 + draw(99));
        }
        if (draw(3) == 0) {
            x.rain(1);
        }
        if (draw(2) == 0) {
            x.go(1);
        }
        return x;
    }

    static void feed(PondLenses x, String text) {
        for (int from = 0; from < text.length(); from += 4) {
            int n = Math.min(4, text.length() - from);
            int bytes = 0;
            for (int i = from; i < from + n; i++) {
                bytes = bytes << 8 | text.charAt(i);
            }
            x.feed(bytes, n);
        }
    }

    static int read(PondLenses x, String text) {
        feed(x, text);
        return x.text();
    }

    /** Sheet s becomes a row of these numbers, of 32 bits. */
    static void tell(PondLenses x, int s, int... numbers) {
        x.sheet(s, 32, numbers.length);
        for (int i = 0; i < numbers.length; i++) {
            x.write(s, i, numbers[i]);
        }
    }
}
