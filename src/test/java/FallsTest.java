/** Promises 30 to 32: falls by draws, odds, the seed. */
public final class FallsTest {
    private static final Due due = new Due();

    public static void main(String[] args) {
        promise30();
        eachFall();
        promise31();
        oddsOfEach();
        promise32();
        due.end();
    }

    private static void promise30() {
        PondLenses x = new PondLenses();
        due.is("30 no things", 0, x.falls(3));
        due.is("30 no draws", 1, x.count(6));
        due.is("30 minutes", 3, x.now(0));
        x.thing(2, 4);
        x.thing(0, 9);
        x.thing(5, 9);
        int z = 1;
        int[] place = {4, 9, 9};
        int sights = 0;
        for (int i = 0; i < 20; i++) {
            z = z * 1103515245 + 12345;
            int thing = (z >>> 8) % 3;
            z = z * 1103515245 + 12345;
            place[thing] = (z >>> 8) % 16;
            place[0] = (place[0] + 1) % 16;
            int set = 1 << place[0] | 1 << place[1] | 1 << place[2];
            sights += Integer.bitCount(set);
        }
        due.is("30 sights", sights, x.falls(20));
        due.is("30 z", z, x.count(6));
        due.is("30 minutes", 23, x.now(0));
        for (int thing = 0; thing < 3; thing++) {
            due.is("30 place of " + thing, place[thing], x.of(thing, 1));
        }
        due.is("30 n 0", Fens.BEYOND, x.falls(0));
        due.is("30 n 21", Fens.BEYOND, x.falls(21));
        due.is("30 n -1", Fens.BEYOND, x.falls(-1));
        due.is("30 z stays", z, x.count(6));
        PondLenses y = new PondLenses();
        y.thing(0, 3);
        y.dig(9, 0, 4);
        for (int pond = 0; pond < 16; pond++) {
            y.dig(pond, 0, pond == 7 ? 6 : 7);
        }
        y.seed(1);
        int first = 1103515245 + 12345;
        int in = (first * 1103515245 + 12345 >>> 8) % 16;
        due.is("30 ponds, not things", in == 7 ? 15 : in == 6 ? 1 : 0, y.falls(1));
        y.change(0, 1, 7);
        due.is("30 many see one", 15, y.count(3));
    }

    /** One thing and eight, one fall and twenty: the draws, the order, the minutes. */
    private static void eachFall() {
        for (int things = 1; things <= 8; things++) {
            PondLenses x = new PondLenses();
            int[] place = new int[things];
            for (int thing = 0; thing < things; thing++) {
                place[thing] = x.of(x.thing(0, thing), 1);
            }
            int z = -1 - things;
            x.seed(z);
            int falls = things % 2 == 1 ? 20 : 1;
            int sights = 0;
            for (int i = 0; i < falls; i++) {
                z = z * 1103515245 + 12345;
                int thing = (z >>> 8) % things;
                z = z * 1103515245 + 12345;
                place[thing] = (z >>> 8) % 16;
                int set = 0;
                for (int at : place) {
                    set |= 1 << at;
                }
                sights += Integer.bitCount(set);
            }
            due.is("30 sights of " + things, sights, x.falls(falls));
            due.is("30 z of " + things, z, x.count(6));
            due.is("30 minute of " + things, falls, x.now(0));
            for (int thing = 0; thing < things; thing++) {
                due.is("30 place of " + thing, place[thing], x.of(thing, 1));
            }
        }
        PondLenses none = new PondLenses();
        none.seed(-5);
        due.is("30 no things, twenty falls", 0, none.falls(20));
        due.is("30 no draws", -5, none.count(6));
        due.is("30 but minutes", 20, none.now(0));
        due.is("30 one more", 0, none.falls(1));
        due.is("30 a minute", 21, none.now(0));
    }

    private static void promise31() {
        PondLenses x = new PondLenses();
        due.is("31 no looks", 1, x.odds(0, 0));
        due.is("31 no looks", 1, x.odds(0, 1));
        due.is("31 none seen", 1, x.odds(12, 0));
        due.is("31 none seen", 1, x.odds(12, 1));
        x.thing(0, 4);
        due.is("31 one of 16", 129746337890625L, x.odds(12, 0));
        due.is("31 one of 16", 281474976710656L, x.odds(12, 1));
        due.is("31 one look", 15, x.odds(1, 0));
        due.is("31 one look", 16, x.odds(1, 1));
        x.thing(0, 5);
        due.is("31 two of 16", 49, x.odds(2, 0));
        due.is("31 two of 16", 64, x.odds(2, 1));
        x.dig(0, 0, 4);
        x.dig(1, 0, 4);
        due.is("31 four of 16", 27, x.odds(3, 0));
        due.is("31 four of 16", 64, x.odds(3, 1));
        for (int pond = 0; pond < 16; pond++) {
            x.dig(pond, 0, pond == 4 ? 5 : 4);
        }
        due.is("31 all, no looks", 1, x.odds(0, 0));
        due.is("31 all, no looks", 1, x.odds(0, 1));
        due.is("31 all", 0, x.odds(3, 0));
        due.is("31 all", 1, x.odds(3, 1));
        due.is("31 n 13", Fens.BEYOND, x.odds(13, 0));
        due.is("31 n -1", Fens.BEYOND, x.odds(-1, 0));
        due.is("31 what 2", Fens.BEYOND, x.odds(0, 2));
        due.is("31 what -1", Fens.BEYOND, x.odds(0, -1));
        due.is("31 counted", 4, x.status(0));
    }

    /** How many ponds of 16 see nothing, and what of that stands above and below the line. */
    private static void oddsOfEach() {
        int[] above = {1, 15, 7, 13, 3, 11, 5, 9, 1, 7, 3, 5, 1, 3, 1, 1, 0};
        int[] below = {1, 16, 8, 16, 4, 16, 8, 16, 2, 16, 8, 16, 4, 16, 8, 16, 1};
        for (int sights = 0; sights <= 16; sights++) {
            PondLenses x = new PondLenses();
            // As many ponds as are to see something, from 1 on, show pond 0; pond 0 shows 1.
            for (int pond = 0; pond < 16; pond++) {
                int shown = pond == 0 ? 1 : pond <= Math.min(sights, 15) ? 0 : 7;
                x.dig(pond, 0, shown == pond ? 8 : shown);
            }
            if (sights > 0) {
                x.thing(0, 0);
            }
            if (sights == 16) {
                x.thing(0, 1);
            }
            due.is("31 sights", sights, x.count(3));
            long up = 1;
            long down = 1;
            for (int n = 0; n <= 12; n++) {
                due.is("31 above of " + sights + ", n " + n, up, x.odds(n, 0));
                due.is("31 below of " + sights + ", n " + n, down, x.odds(n, 1));
                up *= above[sights];
                down *= below[sights];
            }
        }
    }

    private static void promise32() {
        PondLenses x = new PondLenses();
        due.is("32 at first", 1, x.seed(Fens.BEYOND));
        due.is("32 any int", Fens.BEYOND, x.seed(Integer.MIN_VALUE));
        due.is("32 no finding", 0, x.status(-1));
        due.is("32 told", Integer.MIN_VALUE, x.count(6));
        due.is("32 again", Integer.MIN_VALUE, x.seed(Fens.NONE));
        due.is("32 told", Fens.NONE, x.count(6));
        due.is("32 no finding", 0, x.status(-1));
        due.is("32 the greatest", Fens.NONE, x.seed(Integer.MAX_VALUE));
        due.is("32 told", Integer.MAX_VALUE, x.seed(0));
        due.is("32 none", 0, x.count(6));
        for (int finding = Fens.BEYOND; finding >= Fens.SIZE; finding--) {
            x.seed(finding);
            due.is("46 z, no finding", finding, x.count(6));
            due.is("32 z, no finding", finding, x.seed(7));
        }
        due.is("32 no finding at all", 0, x.status(-1));
        x.thing(0, 0);
        x.seed(-12345);
        x.falls(1);
        int z = -12345 * 1103515245 + 12345;
        z = z * 1103515245 + 12345;
        due.is("32 drawn from", (z >>> 8) % 16, x.of(0, 1));
    }
}
