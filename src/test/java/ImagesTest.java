/** Promises 43 to 47: images, counts, status. */
public final class ImagesTest {
    private static final Due due = new Due();

    public static void main(String[] args) {
        promises43And44();
        latest();
        firstImage();
        promise45();
        promise46();
        countsAtMost();
        promise47();
        eachFinding();
        dueFindingsChangeNothing();
        due.end();
    }

    private static void promises43And44() {
        PondLenses x = new PondLenses();
        due.is("44 nothing kept", Fens.NONE, x.undo());
        Fens.read(x, "fish in 3 long 5;pond 2 shows 9 size 1 turned 1 flipped ditch 4 depth 5;rain");
        x.hold(2, 0);
        x.seed(77);
        x.go(3);
        int place = x.of(0, 1);
        due.is("43 kept", 1, x.image());
        x.go(2);
        x.thing(1, 1);
        for (int what = 0; what <= 2; what++) {
            x.change(0, what, 6 + what);
        }
        for (int what = 0; what <= 5; what++) {
            x.dig(2, what, what == 0 ? 1 : 0);
        }
        x.dig(2, 1, 8);
        x.hold(2, -1);
        x.hold(3, 1);
        x.seed(5);
        x.rain(0);
        Fens.feed(x, "abc");
        x.sheet(1, 8, 2);
        due.is("44 minute", 3, x.undo());
        due.is("44 minute", 3, x.now(0));
        due.is("44 things", 1, x.count(1));
        due.is("44 kind", 1, x.of(0, 0));
        due.is("44 pond", place, x.of(0, 1));
        due.is("44 length", 5, x.of(0, 2));
        int[] is = {9, 1, 1, 1, 4, 5};
        for (int what = 0; what <= 5; what++) {
            due.is("44 pond 2 " + what, is[what], x.pond(2, what));
        }
        due.is("44 spot 2", 0, x.as(2, 0));
        due.is("44 spot 3", Fens.MISSING, x.as(3, 0));
        due.is("44 z", 77, x.count(6));
        due.is("44 rain", 1, x.now(3));
        due.is("44 not the tape", 3, x.count(5));
        due.is("44 not the sheets", 1, x.write(1, 1, 1));
        due.is("44 not the findings", 3, x.status(-1));
        x.go(1);
        due.is("44 it stays kept", 3, x.undo());
        due.is("44 things", 1, x.count(1));
    }

    private static void latest() {
        PondLenses x = new PondLenses();
        x.image();
        x.go(1);
        x.image();
        x.go(1);
        due.is("44 the latest", 1, x.undo());
        due.is("44 the latest stays", 1, x.undo());
    }

    /** An image of a new fen is one too; what was done since is undone, as often as asked. */
    private static void firstImage() {
        PondLenses x = new PondLenses();
        due.is("43 of a new one", 1, x.image());
        for (int turn = 0; turn < 3; turn++) {
            Fens.read(x, "pike in 3;pond 0 shows 9;rain");
            x.hold(9, 0);
            x.falls(20);
            x.go(60);
            due.is("44 to the begin", 0, x.undo());
            due.is("44 no things", 0, x.count(1));
            due.is("44 no spots", 0, x.count(7));
            due.is("44 dry", 0, x.now(3));
            due.is("44 z", 1, x.count(6));
            due.is("44 shows", 1, x.pond(0, 0));
        }
        x.thing(4, 4);
        due.is("43 a later one", 1, x.image());
        due.is("44 it is later", 0, x.undo());
        due.is("44 a thing", 1, x.count(1));
        due.is("45 torn", 1, x.tear());
        due.is("45 what is stays", 1, x.count(1));
        due.is("44 none", Fens.NONE, x.undo());
        due.is("44 what is stays", 1, x.count(1));
        due.is("44 none again", Fens.NONE, x.undo());
        due.is("45 none", 0, x.tear());
        due.is("47 undo found none twice", 2, x.status(3));
    }

    private static void promise45() {
        PondLenses x = new PondLenses();
        due.is("45 nothing", 0, x.tear());
        x.image();
        x.image();
        due.is("45 something", 1, x.tear());
        due.is("45 nothing more", 0, x.tear());
        due.is("45 undo", Fens.NONE, x.undo());
        x.image();
        due.is("45 again", 0, x.undo());
    }

    private static void promise46() {
        PondLenses x = new PondLenses();
        x.thing(0, 4);
        x.thing(0, 4);
        x.thing(0, 7);
        x.change(2, 2, 30);
        x.dig(11, 0, 4);
        x.dig(12, 0, 4);
        x.go(5);
        x.hold(1, 1);
        x.hold(2, 1);
        x.hold(0, 0);
        x.hold(0, -1);
        x.feed(0, 3);
        x.seed(-9);
        int[] want = {5, 3, 2, 4, 48, 3, -9, 2};
        for (int what = 0; what <= 7; what++) {
            due.is("46 count " + what, want[what], x.count(what));
        }
        due.is("46 what 8", Fens.BEYOND, x.count(8));
        due.is("46 what -1", Fens.BEYOND, x.count(-1));
    }

    private static void countsAtMost() {
        PondLenses x = new PondLenses();
        for (int thing = 0; thing < 8; thing++) {
            x.thing(0, 2 * thing);
            x.change(thing, 2, 99);
            x.hold(thing, thing);
        }
        x.hold(8, 0);
        x.hold(9, 0);
        Fens.feed(x, " ".repeat(120));
        x.seed(Integer.MIN_VALUE);
        int[] want = {0, 8, 8, 8, 792, 120, Integer.MIN_VALUE, 10};
        for (int what = 0; what <= 7; what++) {
            due.is("46 most, count " + what, want[what], x.count(what));
        }
        for (int pond = 0; pond < 16; pond++) {
            x.dig(pond, 0, pond == 1 ? 2 : pond / 2 * 2 == pond ? (pond + 2) % 16 : pond - 1);
        }
        due.is("46 all see something", 16, x.count(3));
        for (int thing = 0; thing < 8; thing++) {
            x.change(thing, 1, 15);
        }
        due.is("46 one pond", 1, x.count(2));
        due.is("46 seen nowhere", 0, x.count(3));
    }

    private static void promise47() {
        PondLenses x = new PondLenses();
        for (int which = -1; which <= 6; which++) {
            due.is("47 none", 0, x.status(which));
        }
        due.is("47 which 7", Fens.BEYOND, x.status(7));
        due.is("47 counted from then on", 1, x.status(0));
        due.is("47 which -2", Fens.BEYOND, x.status(-2));
        due.is("47 counted", 2, x.status(-1));
        for (int thing = 0; thing < 8; thing++) {
            x.thing(0, thing);
        }
        x.image();
        x.thing(0, 0);
        x.hold(0, 0);
        x.as(0, 1);
        x.as(0, 1);
        x.undo();
        x.tear();
        x.undo();
        x.undo();
        x.undo();
        x.large(0, 0, 1);
        x.as(5, 0);
        x.as(6, 0);
        x.sheet(0, 8, -1);
        x.odds(-1, 0);
        int[] want = {3, 1, 2, 3, 1, 2, 1};
        int all = 0;
        for (int which = 0; which <= 6; which++) {
            due.is("47 which " + which, want[which], x.status(which));
            all += want[which];
        }
        due.is("47 all", all, x.status(-1));
    }

    /** Each finding is counted where it belongs, also by acts that would change nothing anyway. */
    private static void eachFinding() {
        PondLenses x = new PondLenses();
        x.image();
        x.thing(0, 3);
        long[] answers = {
            x.pond(16, 0), x.odds(13, 0), x.comes(0, 4), x.seen(0, 4), x.large(0, 0, 0), x.as(0, 0), x.fits(0, 0),
            x.sheet(0, 0, -5), x.status(7), x.status(-2), x.undo(), x.tear(), x.undo(), x.go(-1),
        };
        int[] want = {0, 0, 0, 0, 0, 0, 0};
        int all = 0;
        for (long answer : answers) {
            if (answer <= Fens.BEYOND) {
                want[(int) (Fens.BEYOND - answer)]++;
                all++;
            }
        }
        due.is("47 so many", 12, all);
        for (int which = 0; which <= 6; which++) {
            due.is("47 of " + which, want[which], x.status(which));
        }
        due.is("47 all", all, x.status(-1));
        due.is("47 no other one", Fens.BEYOND, x.status(Integer.MAX_VALUE));
        due.is("47 counted from then on", all + 1, x.status(-1));
        due.is("35 no finding", -1, x.text());
        x.seed(Fens.FULL);
        due.is("32 no finding", Fens.FULL, x.seed(1));
        due.is("47 no more", all + 1, x.status(-1));
    }

    private static void dueFindingsChangeNothing() {
        PondLenses x = new PondLenses();
        Fens.read(x, "fish in 3;duck in 4;frog in 5");
        int[] before = all(x);
        x.dig(0, 0, 0);
        x.thing(9, 0);
        x.change(0, 1, 16);
        x.rain(3);
        x.go(99);
        x.falls(99);
        x.feed(0, 9);
        x.hold(0, 9);
        x.sheet(0, 7, 7);
        x.undo();
        int[] behind = all(x);
        for (int i = 0; i < before.length; i++) {
            due.is("findings change nothing, " + i, before[i], behind[i]);
        }
        due.is("47 but the status", 10, x.status(-1));
    }

    private static int[] all(PondLenses x) {
        return new int[] {
            x.pond(0, 0), x.count(0), x.count(1), x.count(2), x.count(3), x.count(4), x.count(5), x.count(6),
            x.count(7), x.of(0, 1), x.now(3),
        };
    }
}
