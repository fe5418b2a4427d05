/** Promises 24 to 26: sights that were told. */
public final class SightsTest {
    private static final Due due = new Due();

    public static void main(String[] args) {
        promises24And25();
        overMinutes();
        fortyNumbers();
        ofEachBits();
        lacks();
        promise26();
        fortyPlaces();
        due.end();
    }

    private static void promises24And25() {
        PondLenses x = new PondLenses();
        x.thing(0, 5);
        x.thing(0, 9);
        x.thing(0, 9);
        Fens.tell(x, 0);
        due.is("24 nothing told", 15, x.fits(0, 4));
        due.is("25 nothing told", 0, x.lens(0, 4));
        due.is("25 not itself", 1, x.lens(0, 0));
        Fens.tell(x, 0, -1, -1);
        due.is("24 any", 15, x.fits(0, 4));
        Fens.tell(x, 0, 1);
        due.is("24 one", 1, x.fits(0, 4));
        due.is("25 one", 5, x.lens(0, 4));
        due.is("24 its own isn't shown", 0, x.fits(0, 5));
        due.is("25 its own isn't shown", Fens.NONE, x.lens(0, 5));
        Fens.tell(x, 0, 6);
        due.is("25 two things", 9, x.lens(0, 4));
        Fens.tell(x, 0, 2);
        due.is("24 just these", 0, x.fits(0, 4));
        Fens.tell(x, 0, 0);
        due.is("24 empty ones", 13, x.fits(0, 4));
        due.is("24 empty ones", 14, x.fits(0, 5));
        due.is("25 empty ones", 0, x.lens(0, 4));
        due.is("24 changes nothing", 5, x.pond(4, 0));
        due.is("24 no finding", 0, x.status(0));
        due.is("25 one finding", 1, x.status(-1));
    }

    /** What a pond shows guides the duck in it, too. */
    private static void overMinutes() {
        PondLenses x = new PondLenses();
        x.thing(2, 4);
        x.dig(7, 0, 12);
        Fens.tell(x, 0, 0, 1);
        due.is("24 where the duck goes", 15, x.fits(0, 4));
        Fens.tell(x, 0, 0, 1, 0, 1);
        due.is("25 and comes back", 3, x.lens(0, 4));
        due.is("24 and comes back", 1, x.fits(0, 4));
        Fens.tell(x, 0, -1, -1, 1);
        due.is("24 never", 0, x.fits(0, 4));
        x.change(0, 1, 6);
        Fens.tell(x, 0, -1, 0, 1);
        due.is("24 the second", 1, x.fits(0, 4));
        due.is("25 the second", 12, x.lens(0, 4));
        due.is("24 minute stays", 0, x.now(0));
        due.is("24 duck stays", 6, x.of(0, 1));
        x.sheet(1, 8, 1);
        x.write(1, 0, 255);
        due.is("24 of 8 bits 255 is any", 15, x.fits(1, 4));
    }

    /** A fish in 16 ponds by turns: in minute 39, the last that a sheet can tell, it is 7 ponds on. */
    private static PondLenses roundFish() {
        PondLenses x = new PondLenses();
        for (int pond = 0; pond < 16; pond++) {
            x.dig(pond, 4, (pond + 1) % 16);
        }
        x.thing(1, 3);
        return x;
    }

    private static int[] anyBut(int last) {
        int[] told = new int[40];
        java.util.Arrays.fill(told, -1);
        told[39] = last;
        return told;
    }

    private static void fortyNumbers() {
        PondLenses x = roundFish();
        Fens.tell(x, 0, anyBut(1));
        for (int pond = 0; pond < 16; pond++) {
            due.is("24 in minute 39, by " + pond, pond == 10 ? 0 : 1, x.fits(0, pond));
            due.is("25 in minute 39, by " + pond, pond == 10 ? Fens.NONE : 10, x.lens(0, pond));
        }
        Fens.tell(x, 0, anyBut(0));
        due.is("24 not in minute 39", 14, x.fits(0, 4));
        due.is("24 not in minute 39, its own", 15, x.fits(0, 10));
        due.is("25 not in minute 39", 0, x.lens(0, 4));
        Fens.tell(x, 0, anyBut(-1));
        due.is("24 any, 40 times", 15, x.fits(0, 4));
        Fens.tell(x, 0, 1);
        due.is("25 now", 3, x.lens(0, 4));
        Fens.tell(x, 0, -1, 1);
        due.is("25 a minute on", 4, x.lens(0, 5));
        due.is("25 a minute on, its own", Fens.NONE, x.lens(0, 4));
        Fens.tell(x, 0, -2);
        due.is("24 no such set", 0, x.fits(0, 4));
        Fens.tell(x, 0, 2);
        due.is("24 no such thing", 0, x.fits(0, 4));
        Fens.tell(x, 0, 257);
        due.is("24 more than there can be", 0, x.fits(0, 4));
    }

    /** The least and the greatest pond can be the lens, and all eight things seen through it. */
    private static void ofEachBits() {
        PondLenses x = new PondLenses();
        for (int thing = 0; thing < 8; thing++) {
            x.thing(0, 15);
        }
        x.sheet(0, 16, 1);
        x.write(0, 0, 255);
        due.is("24 all eight", 1, x.fits(0, 4));
        due.is("25 all eight", 15, x.lens(0, 4));
        x.sheet(0, 8, 1);
        x.write(0, 0, 255);
        due.is("24 255 of 8 bits is any", 15, x.fits(0, 4));
        x.sheet(0, 16, 1);
        x.write(0, 0, 65535);
        due.is("24 65535 of 16 bits is any", 15, x.fits(0, 4));
        for (int thing = 0; thing < 7; thing++) {
            x.change(thing, 1, 0);
        }
        x.write(0, 0, 127);
        due.is("25 all but one", 0, x.lens(0, 4));
        due.is("24 in pond 0, by pond 0", 0, x.fits(0, 0));
        x.write(0, 0, 128);
        due.is("25 thing 7", 15, x.lens(0, 4));
        due.is("24 in pond 15, by pond 15", 0, x.fits(0, 15));
        x.sheet(0, 8, 1);
        x.write(0, 0, 128);
        due.is("24 of 8 bits 128 is -128, and no set", 0, x.fits(0, 4));
    }

    private static void fortyPlaces() {
        PondLenses x = roundFish();
        x.thing(0, 10);
        x.thing(1, 4);
        Fens.tell(x, 0, anyBut(10));
        due.is("26 in minute 39", 3, x.which(0));
        Fens.tell(x, 0, anyBut(11));
        due.is("26 in minute 39", 4, x.which(0));
        int[] told = anyBut(10);
        told[0] = 3;
        Fens.tell(x, 0, told);
        due.is("26 now and in minute 39", 1, x.which(0));
        told[38] = 10;
        Fens.tell(x, 0, told);
        due.is("26 in both places at once", 0, x.which(0));
        Fens.tell(x, 0, 15);
        due.is("26 the last pond", 0, x.which(0));
        x.change(1, 1, 15);
        due.is("26 the last pond", 2, x.which(0));
        Fens.tell(x, 0, 0);
        due.is("26 the first pond", 0, x.which(0));
        x.change(1, 1, 0);
        due.is("26 the first pond", 2, x.which(0));
        Fens.tell(x, 0, 4, 0);
        due.is("26 what fits later alone", 0, x.which(0));
        while (x.count(1) < 8) {
            x.thing(0, 7);
        }
        Fens.tell(x, 0, 7);
        due.is("26 up to thing 7", 0xF8, x.which(0));
        due.is("26 no finding", 0, x.status(-1));
    }

    private static void lacks() {
        PondLenses x = new PondLenses();
        x.sheet(1, 8, 1);
        due.is("24 missing", Fens.MISSING, x.fits(0, 0));
        due.is("24 missing ahead of the pond", Fens.MISSING, x.fits(0, 16));
        due.is("24 sheet 4", Fens.BEYOND, x.fits(4, 0));
        due.is("24 sheet -1", Fens.BEYOND, x.fits(-1, 0));
        due.is("24 pond 16", Fens.BEYOND, x.fits(1, 16));
        due.is("24 pond -1", Fens.BEYOND, x.fits(1, -1));
        due.is("25 missing", Fens.MISSING, x.lens(0, 0));
        due.is("25 missing ahead of the pond", Fens.MISSING, x.lens(0, -1));
        due.is("25 sheet 4", Fens.BEYOND, x.lens(4, 0));
        due.is("25 sheet -1", Fens.BEYOND, x.lens(-1, 0));
        due.is("25 pond 16", Fens.BEYOND, x.lens(1, 16));
        due.is("25 pond -1", Fens.BEYOND, x.lens(1, -1));
        due.is("26 missing", Fens.MISSING, x.which(0));
        due.is("26 sheet 4", Fens.BEYOND, x.which(4));
        due.is("26 sheet -1", Fens.BEYOND, x.which(-1));
    }

    private static void promise26() {
        PondLenses x = new PondLenses();
        Fens.tell(x, 0);
        due.is("26 no things", 0, x.which(0));
        x.thing(2, 4);
        x.thing(0, 4);
        x.thing(3, 4);
        due.is("26 nothing told", 7, x.which(0));
        Fens.tell(x, 0, 4);
        due.is("26 now", 7, x.which(0));
        Fens.tell(x, 0, 4, 5);
        due.is("26 a minute on", 5, x.which(0));
        Fens.tell(x, 0, 4, -1, 5);
        due.is("26 two minutes on", 4, x.which(0));
        Fens.tell(x, 0, -1, -1, 6);
        due.is("26 the duck", 1, x.which(0));
        Fens.tell(x, 0, -1);
        due.is("26 any", 7, x.which(0));
        Fens.tell(x, 0, 16);
        due.is("26 no pond", 0, x.which(0));
        Fens.tell(x, 0, -2);
        due.is("26 no pond", 0, x.which(0));
        due.is("26 stays", 4, x.of(0, 1));
        due.is("26 minute stays", 0, x.now(0));
    }
}
