/** Promises 36 to 42: spots, sheets. */
public final class SheetsTest {
    private static final Due due = new Due();

    public static void main(String[] args) {
        promise36();
        spotsFirstToLast();
        promise37();
        promise38();
        sheetsApart();
        promise39();
        signs();
        promise40();
        wholeCopies();
        promise41();
        loadToTheEnd();
        promise42();
        judgeToTheEnd();
        due.end();
    }

    private static void promise36() {
        PondLenses x = new PondLenses();
        due.is("36 no thing", Fens.BEYOND, x.hold(0, 0));
        due.is("36 nothing", 1, x.hold(0, -1));
        x.thing(1, 0);
        x.thing(2, 0);
        due.is("36 first", 1, x.hold(0, 1));
        due.is("36 last", 1, x.hold(9, 0));
        due.is("36 held", 2, x.count(7));
        due.is("36 another", 1, x.hold(0, 0));
        due.is("36 held", 0, x.as(0, 0));
        due.is("36 let go", 1, x.hold(9, -1));
        due.is("36 held", 1, x.count(7));
        due.is("36 thing 2", Fens.BEYOND, x.hold(0, 2));
        due.is("36 thing -2", Fens.BEYOND, x.hold(0, -2));
        due.is("36 spot 10", Fens.BEYOND, x.hold(10, 0));
        due.is("36 spot -1", Fens.BEYOND, x.hold(-1, 0));
        due.is("36 spot 10 and nothing", Fens.BEYOND, x.hold(10, -1));
        due.is("36 stays", 0, x.as(0, 0));
    }

    private static void spotsFirstToLast() {
        PondLenses x = new PondLenses();
        x.thing(0, 0);
        for (int spot = 0; spot < 10; spot++) {
            due.is("36 nothing at first", Fens.MISSING, x.as(spot, 0));
            due.is("36 hold", 1, x.hold(spot, 0));
            due.is("36 held", 0, x.as(spot, 0));
            due.is("46 spots", spot + 1, x.count(7));
        }
        while (x.count(1) < 8) {
            x.thing(6, 0);
        }
        due.is("36 the last thing", 1, x.hold(9, 7));
        due.is("37 the last thing", 7, x.as(9, 1));
        due.is("36 no thing 8", Fens.BEYOND, x.hold(9, 8));
        due.is("36 as many", 10, x.count(7));
        due.is("36 nothing", 1, x.hold(9, -1));
        due.is("36 nothing again", 1, x.hold(9, -1));
        due.is("36 one less", 9, x.count(7));
    }

    private static void promise37() {
        // Of each kind, as a set, the kinds that it is one of.
        int[] is = {1, 3, 5, 13, 29, 33, 67};
        PondLenses x = new PondLenses();
        for (int kind = 0; kind <= 6; kind++) {
            x.thing(kind, 0);
            x.hold(kind, kind);
            for (int as = 0; as <= 6; as++) {
                int want = (is[kind] >> as & 1) != 0 ? kind : Fens.KIND;
                due.is("37 " + kind + " as " + as, want, x.as(kind, as));
            }
        }
        x.change(6, 0, 2);
        due.is("37 as it is now", 6, x.as(6, 2));
        due.is("37 nothing", Fens.MISSING, x.as(9, 0));
        due.is("37 beyond ahead of missing", Fens.BEYOND, x.as(9, 7));
        due.is("37 kind 7", Fens.BEYOND, x.as(0, 7));
        due.is("37 kind -1", Fens.BEYOND, x.as(0, -1));
        due.is("37 spot 10", Fens.BEYOND, x.as(10, 0));
        due.is("37 spot -1", Fens.BEYOND, x.as(-1, 0));
    }

    private static void promise38() {
        PondLenses x = new PondLenses();
        due.is("38 of 8", 40, x.sheet(0, 8, 40));
        due.is("38 of 16", 1, x.sheet(3, 16, 1));
        due.is("38 of 32", 0, x.sheet(1, 32, 0));
        due.is("38 no numbers, but there", 0, x.load(1));
        due.is("38 last number", 1, x.write(0, 39, 7));
        due.is("38 sheet 4", Fens.BEYOND, x.sheet(4, 8, 1));
        due.is("38 sheet -1", Fens.BEYOND, x.sheet(-1, 8, 1));
        due.is("38 bits 1", Fens.BEYOND, x.sheet(0, 1, 1));
        due.is("38 bits 64", Fens.BEYOND, x.sheet(0, 64, 1));
        due.is("38 bits -8", Fens.BEYOND, x.sheet(0, -8, 1));
        due.is("38 bits ahead of size", Fens.BEYOND, x.sheet(0, 9, -1));
        due.is("38 n -1", Fens.SIZE, x.sheet(0, 8, -1));
        due.is("38 n -1 with bits 0", Fens.SIZE, x.sheet(0, 0, -1));
        due.is("38 far below", Fens.SIZE, x.sheet(0, 8, Integer.MIN_VALUE));
        due.is("38 n 41", Fens.BEYOND, x.sheet(0, 8, 41));
        due.is("38 n 41 with bits 0", Fens.BEYOND, x.sheet(0, 0, 41));
        due.is("38 stays", 1, x.write(0, 39, 7));
        Fens.tell(x, 0, 7, 7, 7);
        due.is("38 anew", 40, x.sheet(0, 8, 40));
        due.is("38 all 0", 16, x.load(0));
        due.is("38 the first", 0, x.pond(0, 5));
        due.is("38 the third", 0, x.pond(2, 5));
        due.is("38 missing", 0, x.sheet(0, 0, 40));
        due.is("38 is missing", Fens.MISSING, x.write(0, 0, 1));
        due.is("38 other stays", 1, x.write(3, 0, 1));
    }

    /** Each sheet has bits, length and numbers of its own, and is all 0 whenever it is made. */
    private static void sheetsApart() {
        PondLenses x = new PondLenses();
        int[] bits = {8, 16, 32, 8};
        for (int s = 0; s < 4; s++) {
            due.is("38 missing at first", Fens.MISSING, x.judge(s));
            due.is("38 a sheet of " + s, s, x.sheet(s, bits[s], s));
        }
        for (int s = 0; s < 4; s++) {
            due.is("38 none behind the last", Fens.BEYOND, x.write(s, s, 3));
            for (int i = 0; i < s; i++) {
                due.is("39 each", 1, x.write(s, i, 10 * s + i));
            }
        }
        for (int s = 0; s < 4; s++) {
            due.is("41 each", s, x.load(s));
            for (int i = 0; i < s; i++) {
                due.is("39 its own", 10 * s + i, x.pond(i, 5));
            }
        }
        due.is("38 one goes", 0, x.sheet(1, 0, 0));
        due.is("38 it is missing", Fens.MISSING, x.load(1));
        due.is("38 another isn't", 2, x.load(2));
        for (int bit : new int[] {8, 16, 32}) {
            due.is("38 none", 0, x.sheet(3, bit, 0));
            due.is("38 none is not missing", 0, x.load(3));
            due.is("38 forty", 40, x.sheet(3, bit, 40));
            due.is("39 the fortieth", 1, x.write(3, 39, 9));
            due.is("39 no further one", Fens.BEYOND, x.write(3, 40, 9));
            due.is("38 again", 40, x.sheet(3, bit, 40));
            due.is("38 all of it is 0", 40, zeros(x, 3));
        }
        due.is("38 gone", 0, x.sheet(3, 0, 40));
        due.is("38 gone again", 0, x.sheet(3, 0, 40));
        due.is("38 back", 1, x.sheet(3, 8, 1));
    }

    /** From how many places on a sheet of 40 there is a 0, told by the depth that it brings. */
    private static int zeros(PondLenses x, int s) {
        int zeros = 0;
        for (int i = 0; i < 40; i++) {
            x.dig(0, 5, 50);
            x.copy(s, i, s, 0, 1);
            x.load(s);
            zeros += x.pond(0, 5) == 0 ? 1 : 0;
        }
        return zeros;
    }

    /** What v's lowest bits tell, with their sign: by which() -1 is any, else it is the pond told. */
    private static void signs() {
        int[] bits = {8, 8, 8, 8, 8, 8, 8, 8, 8, 16, 16, 16, 16, 16, 16, 32, 32, 32};
        int[] v = {
            5, 261, -251, Integer.MIN_VALUE + 5, 255, -1, 127, 128, 0xFFFFFF05, 65541, -65531, 65535, -1, 255, 32773,
            5, -1, 65541,
        };
        boolean[] isAny = {
            false, false, false, false, true, true, false, false, false, false, false, true, true, false, false,
            false, true, false,
        };
        boolean[] isFive = {
            true, true, true, true, false, false, false, false, true, true, true, false, false, false, false,
            true, false, false,
        };
        for (int i = 0; i < bits.length; i++) {
            PondLenses x = new PondLenses();
            x.thing(0, 5);
            x.thing(0, 4);
            x.sheet(0, bits[i], 1);
            due.is("39 " + v[i] + " of " + bits[i], 1, x.write(0, 0, v[i]));
            due.is("39 told " + v[i] + " of " + bits[i], isAny[i] ? 3 : isFive[i] ? 1 : 0, x.which(0));
        }
        // A depth is told if the lowest bits are one: 200 of 8 bits is -56, of 16 it is 200.
        int[] depths = {99, 100, 127, 128, 200, 255, 256, 256 + 99, 65536, 65536 + 99, -1, -157, -65437};
        int[] of8 = {1, 0, 0, 0, 0, 0, 1, 1, 1, 1, 0, 1, 1};
        int[] of16 = {1, 0, 0, 0, 0, 0, 0, 0, 1, 1, 0, 0, 1};
        int[] of32 = {1, 0, 0, 0, 0, 0, 0, 0, 0, 0, 0, 0, 0};
        PondLenses x = new PondLenses();
        x.sheet(1, 8, 1);
        x.sheet(2, 16, 1);
        x.sheet(3, 32, 1);
        for (int i = 0; i < depths.length; i++) {
            for (int s = 1; s <= 3; s++) {
                x.write(s, 0, depths[i]);
            }
            due.is("39 " + depths[i] + " of 8", of8[i], x.load(1));
            due.is("39 " + depths[i] + " of 16", of16[i], x.load(2));
            due.is("39 " + depths[i] + " of 32", of32[i], x.load(3));
        }
    }

    private static void promise39() {
        PondLenses x = new PondLenses();
        due.is("39 missing", Fens.MISSING, x.write(0, 0, 1));
        due.is("39 missing ahead of the number", Fens.MISSING, x.write(0, -1, 1));
        due.is("39 sheet 4", Fens.BEYOND, x.write(4, 0, 1));
        due.is("39 sheet -1", Fens.BEYOND, x.write(-1, 0, 1));
        x.thing(0, 5);
        int[] bits = {8, 16, 32};
        int[] more = {256, 65536, 0};
        for (int s = 0; s < 3; s++) {
            x.sheet(s, bits[s], 1);
            due.is("39 " + bits[s], 1, x.write(s, 0, 5));
            due.is("39 told", 1, x.which(s));
            due.is("39 lowest bits", 1, x.write(s, 0, 5 + more[s]));
            due.is("39 told", 1, x.which(s));
            due.is("39 with sign", 1, x.write(s, 0, more[s] - 1));
            x.change(0, 1, 8);
            due.is("39 told as any", 1, x.which(s));
            x.change(0, 1, 5);
        }
        x.write(1, 0, 255);
        due.is("39 255 of 16 bits", 0, x.which(1));
        x.write(2, 0, 65535);
        due.is("39 65535 of 32 bits", 0, x.which(2));
        x.write(2, 0, 65536 + 5);
        due.is("39 all the bits of 32", 0, x.which(2));
        due.is("39 no number 1", Fens.BEYOND, x.write(0, 1, 5));
        due.is("39 no number -1", Fens.BEYOND, x.write(0, -1, 5));
    }

    private static void promise40() {
        PondLenses x = new PondLenses();
        due.is("40 missing", Fens.MISSING, x.copy(0, 0, 1, 0, 0));
        Fens.tell(x, 0, 10, 11, 12, 13, 14);
        due.is("40 the other is missing", Fens.MISSING, x.copy(0, 0, 1, 0, 0));
        due.is("40 missing", Fens.MISSING, x.copy(1, 0, 0, 0, 0));
        x.sheet(2, 16, 5);
        due.is("40 other bits", Fens.KIND, x.copy(0, 0, 2, 0, 1));
        due.is("40 bits ahead of the places", Fens.KIND, x.copy(0, 9, 2, 0, 1));
        due.is("40 missing ahead of bits", Fens.MISSING, x.copy(2, 0, 3, -1, 1));
        due.is("40 sheet 4", Fens.BEYOND, x.copy(4, 0, 1, 0, 0));
        due.is("40 sheet -1", Fens.BEYOND, x.copy(1, 0, -1, 0, 0));
        Fens.tell(x, 1, 20, 21, 22);
        due.is("40 two", 2, x.copy(0, 3, 1, 1, 2));
        depths(x, 1, 20, 13, 14);
        due.is("40 none", 0, x.copy(0, 5, 1, 3, 0));
        due.is("40 from too far", Fens.BEYOND, x.copy(0, 4, 1, 0, 2));
        due.is("40 to too far", Fens.BEYOND, x.copy(0, 0, 1, 2, 2));
        due.is("40 from behind the end", Fens.BEYOND, x.copy(0, 6, 1, 0, 0));
        due.is("40 from -1", Fens.BEYOND, x.copy(0, -1, 1, 0, 1));
        due.is("40 to -1", Fens.BEYOND, x.copy(0, 0, 1, -1, 1));
        due.is("40 n -1", Fens.BEYOND, x.copy(0, 1, 1, 1, -1));
        due.is("40 far", Fens.BEYOND, x.copy(0, 1, 1, 1, Integer.MAX_VALUE));
        due.is("40 far", Fens.BEYOND, x.copy(0, Integer.MAX_VALUE, 1, 1, 1));
        depths(x, 1, 20, 13, 14);
        due.is("40 in itself", 3, x.copy(0, 0, 0, 1, 3));
        depths(x, 0, 10, 10, 11, 12, 14);
        due.is("40 and back", 4, x.copy(0, 1, 0, 0, 4));
        depths(x, 0, 10, 11, 12, 14, 14);
        due.is("40 all", 3, x.copy(1, 0, 0, 2, 3));
        depths(x, 0, 10, 11, 20, 13, 14);
    }

    /** All of 40 numbers, the last of them, and none from behind it. */
    private static void wholeCopies() {
        PondLenses x = new PondLenses();
        x.sheet(0, 16, 40);
        x.sheet(1, 16, 40);
        for (int i = 0; i < 40; i++) {
            x.write(0, i, i);
        }
        due.is("40 all of 40", 40, x.copy(0, 0, 1, 0, 40));
        due.is("40 they came", 16, x.load(1));
        due.is("40 the last that is seen", 15, x.pond(15, 5));
        due.is("40 the last", 1, x.copy(1, 39, 1, 0, 1));
        x.load(1);
        due.is("40 the last", 39, x.pond(0, 5));
        due.is("40 to the last place", 1, x.copy(1, 5, 1, 39, 1));
        due.is("40 and from it", 1, x.copy(1, 39, 1, 1, 1));
        x.load(1);
        due.is("40 there and back", 5, x.pond(1, 5));
        due.is("40 none, behind the last", 0, x.copy(0, 40, 1, 40, 0));
        due.is("40 one, behind the last", Fens.BEYOND, x.copy(0, 40, 1, 0, 1));
        due.is("40 one too many", Fens.BEYOND, x.copy(0, 1, 1, 0, 40));
        due.is("40 41", Fens.BEYOND, x.copy(0, 0, 1, 0, 41));
        due.is("40 onto itself", 40, x.copy(0, 0, 0, 0, 40));
        due.is("40 on by one", 39, x.copy(0, 0, 0, 1, 39));
        x.load(0);
        due.is("40 as they all were, the first", 0, x.pond(1, 5));
        due.is("40 as they all were, the fifteenth", 14, x.pond(15, 5));
        x.sheet(2, 16, 0);
        due.is("40 none of none", 0, x.copy(2, 0, 2, 0, 0));
        due.is("40 one of none", Fens.BEYOND, x.copy(2, 0, 1, 0, 1));
        due.is("40 one to none", Fens.BEYOND, x.copy(1, 0, 2, 0, 1));
    }

    /** Looks at a sheet by what depths it brings. */
    private static void depths(PondLenses x, int s, int... want) {
        due.is("41 how many", want.length, x.load(s));
        for (int i = 0; i < want.length; i++) {
            due.is("41 depth of " + i, want[i], x.pond(i, 5));
        }
    }

    private static void promise41() {
        PondLenses x = new PondLenses();
        due.is("41 missing", Fens.MISSING, x.load(0));
        due.is("41 sheet 4", Fens.BEYOND, x.load(4));
        due.is("41 sheet -1", Fens.BEYOND, x.load(-1));
        Fens.tell(x, 0, 0, 99, 100, 5);
        due.is("41 up to 99", 2, x.load(0));
        due.is("41 least", 0, x.pond(0, 5));
        due.is("41 most", 99, x.pond(1, 5));
        due.is("41 not", 10, x.pond(2, 5));
        due.is("41 not behind it", 10, x.pond(3, 5));
        Fens.tell(x, 0, 1, -1);
        due.is("41 not below 0", 1, x.load(0));
        x.sheet(1, 8, 40);
        due.is("41 no pond more", 16, x.load(1));
        due.is("41 the last pond", 0, x.pond(15, 5));
    }

    /** As many ponds as there are, one less and one more; and what is no depth, in each place. */
    private static void loadToTheEnd() {
        for (int n : new int[] {0, 1, 15, 16, 17, 40}) {
            PondLenses x = new PondLenses();
            x.sheet(0, 16, n);
            for (int i = 0; i < n; i++) {
                x.write(0, i, 20 + i);
            }
            due.is("41 of " + n, Math.min(n, 16), x.load(0));
            for (int pond = 0; pond < 16; pond++) {
                due.is("41 of " + n + " in " + pond, pond < n ? 20 + pond : 10, x.pond(pond, 5));
            }
        }
        for (int no : new int[] {-1, 100, 32767, -32768}) {
            for (int at = 0; at < 16; at++) {
                PondLenses x = new PondLenses();
                x.sheet(0, 16, 16);
                x.write(0, at, no);
                due.is("41 not " + no, at, x.load(0));
                due.is("41 there it ends", 10, x.pond(at, 5));
                due.is("41 and ahead of it", at == 0 ? 10 : 0, x.pond(Math.max(0, at - 1), 5));
                due.is("41 and at the end", 10, x.pond(15, 5));
            }
        }
    }

    /** A chain of 40 numbers, twice round and more, and one that isn't so in each place. */
    private static void judgeToTheEnd() {
        PondLenses x = new PondLenses();
        x.sheet(0, 8, 40);
        for (int i = 0; i < 40; i++) {
            x.write(0, i, i % 16);
        }
        due.is("42 forty", 0, x.judge(0));
        for (int i = 0; i < 40; i++) {
            for (int no : new int[] {-1, 16, 127, i == 0 ? -128 : i + 2 & 15}) {
                x.write(0, i, no);
                due.is("42 not " + no + " in " + i, 1 + i, x.judge(0));
            }
            x.write(0, i, i % 16);
        }
        due.is("42 forty again", 0, x.judge(0));
        x.dig(15, 0, 1);
        due.is("42 the first place where it fails", 17, x.judge(0));
        Fens.tell(x, 1, 15);
        due.is("42 the last pond", 0, x.judge(1));
        Fens.tell(x, 1, 0);
        due.is("42 the first pond", 0, x.judge(1));
        Fens.tell(x, 1, 15, 1, 2);
        due.is("42 as it shows now", 0, x.judge(1));
        Fens.tell(x, 1, 2, 1);
        due.is("42 not the other way", 2, x.judge(1));
        x.sheet(1, 32, 0);
        due.is("42 none", 0, x.judge(1));
    }

    private static void promise42() {
        PondLenses x = new PondLenses();
        due.is("42 missing", Fens.MISSING, x.judge(0));
        due.is("42 sheet 4", Fens.BEYOND, x.judge(4));
        due.is("42 sheet -1", Fens.BEYOND, x.judge(-1));
        Fens.tell(x, 0);
        due.is("42 no numbers", 0, x.judge(0));
        Fens.tell(x, 0, 14, 15, 0, 1);
        due.is("42 a chain", 0, x.judge(0));
        x.dig(0, 0, 7);
        due.is("42 no more", 4, x.judge(0));
        Fens.tell(x, 0, 16);
        due.is("42 no pond", 1, x.judge(0));
        Fens.tell(x, 0, 3);
        due.is("42 one pond", 0, x.judge(0));
        Fens.tell(x, 0, 3, 5, 6);
        due.is("42 not shown", 2, x.judge(0));
        Fens.tell(x, 0, 3, 3);
        due.is("42 not itself", 2, x.judge(0));
        Fens.tell(x, 0, 15, 16);
        due.is("42 no pond 16", 2, x.judge(0));
        Fens.tell(x, 0, -1, 0);
        due.is("42 no pond -1", 1, x.judge(0));
    }
}
