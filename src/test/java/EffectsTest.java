import java.util.ArrayList;
import java.util.List;
import java.util.function.Consumer;
import java.util.function.ToLongFunction;

/** What each act changes in a fen, and that it changes nothing else; that looking changes nothing at all. */
public final class EffectsTest {
    private static final Due due = new Due();

    public static void main(String[] args) {
        ponds();
        minutes();
        texts();
        sheets();
        images();
        looks();
        objectsApart();
        due.end();
    }

    private static void does(String call, long want, String changes, ToLongFunction<PondLenses> act) {
        does(call, want, changes, x -> { }, act);
    }

    private static void does(
            String call, long want, String changes, Consumer<PondLenses> ahead, ToLongFunction<PondLenses> act) {
        PondLenses as = Fens.lived();
        ahead.accept(as);
        PondLenses x = Fens.lived();
        ahead.accept(x);
        due.is(call, want, act.applyAsLong(x));
        List<String> before = Look.at(as);
        due.says("behind " + call, changes, Look.changes(before, Look.at(x)));
    }

    private static void ponds() {
        does("3 shows", 6, "pond 5 0=9", x -> x.dig(5, 0, 9));
        does("3 size", 5, "pond 6 1=9", x -> x.dig(6, 1, 9));
        does("3 turned", 2, "pond 6 2=3", x -> x.dig(6, 2, 3));
        does("3 flipped", 1, "pond 6 3=0", x -> x.dig(6, 3, 0));
        does("3 ditch", 11, "pond 12 4=15", x -> x.dig(12, 4, 15));
        does("3 depth", 33, "pond 8 5=99", x -> x.dig(8, 5, 99));
        does("3 as it was", 33, "", x -> x.dig(8, 5, 33));
        does("3 pond 0 shows 15", 1, "pond 0 0=15", x -> x.dig(0, 0, 15));
        does("3 pond 15 shows 14", 0, "pond 15 0=14", x -> x.dig(15, 0, 14));
        does("4 a thing", 3, "thing 3 0=5, thing 3 1=14, thing 3 2=9", x -> x.thing(5, 14));
        does("6 kind", 1, "thing 1 0=4", x -> x.change(1, 0, 4));
        does("6 pond", 4, "thing 2 1=15", x -> x.change(2, 1, 15));
        does("6 length", 20, "thing 1 2=99", x -> x.change(1, 2, 99));
        does("6 as it was", 20, "", x -> x.change(1, 2, 20));
        does("7 dry", 1, "rain=0", x -> x.rain(0));
        does("7 as it was", 1, "", x -> x.rain(1));
    }

    private static void minutes() {
        String places = "thing 0 1=3, thing 1 1=6, thing 2 1=5";
        does("8 a minute", 4, places + ", minute=4", x -> x.go(1));
        int second = 12345 * 1103515245 + 12345;
        int at = ((second >>> 8) % 16 + 1) % 16;
        // The frog falls, and as the minute is odd goes no further than the rain brings it.
        due.is("30 who falls", 0, (12345 >>> 8) % 3);
        String fallen = "thing 0 1=" + at + ", thing 1 1=6, thing 2 1=5, minute=4, z=" + second;
        // Seen in 5, in 1 and 4, and in the one that shows where the frog is.
        due.is("30 where it falls", 7, at);
        does("30 a fall", 4, fallen, x -> x.seed(0), x -> x.falls(1));
        does("32 seed", -7, "z=5", x -> x.seed(5));
    }

    private static void texts() {
        does("33 a blank", 15, "bytes=15", x -> x.feed(' ', 1));
        does("34 wipe", 14, "bytes=0, text=-1, text, depth of 9=10", x -> x.wipe());
        does("35 a text", 1, "pond 9 5=7, bytes=0, text=-1", x -> x.text());
        does("35 a fault", -15, "bytes=0, text=-1", x -> x.feed('?', 1), x -> x.text());
        String thing = "thing 3 0=2, thing 3 1=15, thing 3 2=9, rain=0";
        does("35 more items", 3, "pond 9 5=7, " + thing + ", bytes=0, text=-1",
            x -> Fens.feed(x, ";dry;duck in 15"), x -> x.text());
        does("35 more items, and a fault", -1 - 30, "bytes=0, text=-1",
            x -> Fens.feed(x, ";dry;duck in 15;"), x -> x.text());
        does("35 a ninth thing", -1 - 15, "bytes=0, text=-1", x -> {
            while (x.count(1) < 8) {
                x.thing(0, 0);
            }
            Fens.feed(x, ";heron");
        }, x -> x.text());
    }

    private static void sheets() {
        does("36 hold", 1, "spot 0=1", x -> x.hold(0, 1));
        does("36 hold nothing", 1, "spot 1=" + Fens.MISSING, x -> x.hold(1, -1));
        does("36 hold nothing again", 1, "", x -> x.hold(9, -1));
        String anew = "sheet 0 number 0=0, sheet 0 number 1=0, sheet 0 number 2=0";
        does("38 as long", 3, anew, x -> x.sheet(0, 8, 3));
        does("38 of more bits", 3, anew + ", sheet 0 takes 256=0", x -> x.sheet(0, 16, 3));
        String gone = "sheet 2 brings=-1000006, sheet 2 long=0, sheet 2 takes 256=-1000006,"
            + " sheet 2 takes 65536=-1000006, sheet 2 number 0 gone, sheet 2 number 1 gone";
        does("38 missing", 0, gone, x -> x.sheet(2, 0, 2));
        does("38 missing, n 0", 0, gone, x -> x.sheet(2, 0, 0));
        does("38 missing, n 40", 0, gone, x -> x.sheet(2, 0, 40));
        does("39 write", 1, "sheet 1 number 2=77", x -> x.write(1, 2, 77));
        does("39 its lowest bits", 1, "sheet 1 number 3=77", x -> x.write(1, 3, 65536 * 3 + 77));
        does("40 as they all were", 2, "sheet 1 number 1=1, sheet 1 number 2=2", x -> x.copy(1, 0, 1, 1, 2));
        does("40 none", 0, "", x -> x.copy(1, 4, 1, 4, 0));
        does("41 load", 3, "pond 0 5=5, pond 1 5=6, pond 2 5=7", x -> x.load(0));
        does("41 none", 0, "", x -> x.write(0, 0, 100), x -> x.load(0));
    }

    /** The rows of a fen as it is, or, with "kept ", as it is kept. */
    private static List<String> rowsOf(List<String> rows, String when) {
        List<String> own = new ArrayList<>();
        for (String row : rows) {
            if (row.startsWith("kept ") == when.equals("kept ")) {
                own.add(row.substring(when.length()));
            }
        }
        own.removeIf(row -> !row.matches("(pond|thing|spot|minute|rain|z)\\b.*"));
        return own;
    }

    private static void images() {
        List<String> before = Look.at(Fens.lived());
        List<String> now = rowsOf(before, "");
        List<String> earlier = rowsOf(before, "kept ");
        due.is("43 rows", 96 + 9 + 10 + 3, now.size());
        due.is("43 rows kept", 96 + 3 + 10 + 3, earlier.size());

        PondLenses x = Fens.lived();
        due.is("43 image", 1, x.image());
        List<String> rows = Look.at(x);
        due.says("43 it is kept", now.toString(), rowsOf(rows, "kept ").toString());
        due.says("43 and as it was", now.toString(), rowsOf(rows, "").toString());

        PondLenses y = Fens.lived();
        due.is("44 undo", 1, y.undo());
        rows = Look.at(y);
        due.says("44 as it was kept", earlier.toString(), rowsOf(rows, "").toString());
        due.says("44 which stays", earlier.toString(), rowsOf(rows, "kept ").toString());
        for (String row : before) {
            if (row.startsWith("sheet") || row.startsWith("bytes") || row.startsWith("status")) {
                due.is("44 stays: " + row, 1, rows.contains(row) ? 1 : 0);
            }
        }

        PondLenses z = Fens.lived();
        due.is("45 tear", 1, z.tear());
        rows = Look.at(z);
        due.says("45 as it was", now.toString(), rowsOf(rows, "").toString());
        due.is("45 nothing is kept", 1, rows.contains("undo=" + Fens.NONE) ? 1 : 0);
    }

    private static void looks(String call, ToLongFunction<PondLenses> act) {
        PondLenses x = Fens.lived();
        act.applyAsLong(x);
        due.says("behind " + call, "", Look.changes(Look.at(Fens.lived()), Look.at(x)));
    }

    private static void looks() {
        for (int i = 0; i <= 7; i++) {
            int what = i;
            looks("2 pond " + what, x -> x.pond(4, what));
            looks("46 count " + what, x -> x.count(what));
            looks("5 of " + what, x -> x.of(2, what % 5));
            looks("9 now " + what, x -> x.now(what % 5));
            looks("10 chain " + what, x -> x.chain(4, 16, what % 4));
            looks("47 status " + what, x -> x.status(what - 1));
        }
        looks("11 through", x -> x.through(1, 1));
        looks("12 upright", x -> x.upright(1));
        looks("13 large", x -> x.large(4, 1, 1));
        looks("14 round", x -> x.round(1));
        looks("15 rounds", x -> x.rounds());
        looks("16 before", x -> x.before(1));
        looks("17 shownBy", x -> x.shownBy(1));
        looks("18 ahead", x -> x.ahead(1, 100));
        looks("19 comes", x -> x.comes(1, 10));
        looks("20 seen", x -> x.seen(1, 10));
        looks("21 meet", x -> x.meet(1, 2), x -> x.rain(0));
        looks("22 cast", x -> x.cast(1, 100));
        looks("23 kindFor", x -> x.kindFor(1));
        looks("24 fits", x -> x.fits(3, 1), x -> Fens.tell(x, 3, -1, 0, 0, 2));
        looks("25 lens", x -> x.lens(3, 1), x -> Fens.tell(x, 3, -1, 0, -1, -1));
        looks("26 which", x -> x.which(3), x -> Fens.tell(x, 3, -1, 6, -1, -1));
        looks("27 eyes", x -> x.eyes(), x -> x.dig(1, 0, 2));
        looks("28 dredge", x -> x.dredge(1, 0));
        looks("28 depths", x -> x.dredge(1, 1));
        looks("29 watch", x -> x.watch(40));
        looks("31 odds", x -> x.odds(12, 0));
        looks("37 as", x -> x.as(1, 1));
        looks("42 judge", x -> x.judge(1));
    }

    private static void looks(String call, ToLongFunction<PondLenses> act, Consumer<PondLenses> ahead) {
        PondLenses as = Fens.lived();
        ahead.accept(as);
        PondLenses x = Fens.lived();
        ahead.accept(x);
        due.is(call + " finds nothing amiss", 1, act.applyAsLong(x) >= 0 ? 1 : 0);
        List<String> before = Look.at(as);
        due.says("behind " + call, "", Look.changes(before, Look.at(x)));
    }

    /** What is done to one object is not done to another, made earlier or later. */
    private static void objectsApart() {
        PondLenses earlier = new PondLenses();
        Fens.lived();
        PondLenses later = new PondLenses();
        List<String> rows = Look.at(earlier);
        due.says("1 an earlier one", Look.at(new PondLenses()).toString(), rows.toString());
        due.says("1 a later one", rows.toString(), Look.at(later).toString());
    }
}
