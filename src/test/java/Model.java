import java.math.BigInteger;
import java.util.ArrayList;
import java.util.Arrays;
import java.util.Collections;
import java.util.HashSet;
import java.util.List;
import java.util.Set;
import java.util.function.IntPredicate;
import java.util.function.IntUnaryOperator;
import java.util.function.Predicate;
import java.util.stream.IntStream;

/**
 * The document written a second time, with all of the Java library and without a care for speed: what
 * will be is a list of fens, sets are tried one by one. Its face is that of PondLenses.
 */
final class Model {
    // Of each pond and thing what pond() and of() tell by these numbers.
    private static final int[] POND_LEAST = {0, 1, 0, 0, 0, 0};
    private static final int[] POND_MOST = {15, 9, 3, 1, 15, 99};
    private static final int[] THING_LEAST = {0, 0, 1};
    private static final int[] THING_MOST = {6, 15, 99};
    private static final List<Integer> UNDER = List.of(-1, 0, 0, 2, 3, 0, 1);

    /** All but the tape and sheets. */
    static final class Fen {
        final int[][] ponds = new int[16][];
        final List<int[]> things = new ArrayList<>();
        int[] spots = new int[10];
        int rain = 0;
        int minute = 0;
        int z = 1;

        Fen() {
            for (int pond = 0; pond < 16; pond++) {
                ponds[pond] = new int[] {pond == 15 ? 0 : pond + 1, 3, 0, 0, pond, 10};
            }
            Arrays.fill(spots, -1);
        }

        Fen copy() {
            Fen copy = new Fen();
            for (int pond = 0; pond < 16; pond++) {
                copy.ponds[pond] = ponds[pond].clone();
            }
            for (int[] thing : things) {
                copy.things.add(thing.clone());
            }
            copy.spots = spots.clone();
            copy.rain = rain;
            copy.minute = minute;
            copy.z = z;
            return copy;
        }

        int shown(int pond) {
            return ponds[pond][0];
        }

        int place(int thing) {
            return things.get(thing)[1];
        }

        int in(int pond) {
            return set(things.size(), thing -> place(thing) == pond);
        }

        int showers(int pond) {
            return set(16, from -> shown(from) == pond);
        }

        int filled() {
            return set(16, pond -> in(pond) != 0);
        }

        int sights() {
            return set(16, pond -> in(shown(pond)) != 0);
        }

        boolean isFish(int thing) {
            return isUnder(things.get(thing)[0], 1);
        }

        boolean hasFish(int pond, int except) {
            return IntStream.range(0, things.size()).anyMatch(t -> t != except && isFish(t) && place(t) == pond);
        }

        int next(int thing) {
            int own = place(thing);
            int ditch = ponds[own][4];
            int shown = shown(own);
            int frogs = minute % 2 == 0 ? shown : own;
            int shower = IntStream.range(0, 16).filter(from -> shown(from) == own).findFirst().orElse(-1);
            int next = switch (things.get(thing)[0]) {
                case 1 -> ditch;
                case 2 -> shown;
                case 3 -> frogs;
                case 4 -> shower >= 0 && hasFish(shower, -1) ? shower : frogs;
                case 5 -> ponds[own][5] < things.get(thing)[2] ? ditch : own;
                case 6 -> hasFish(shown, thing) ? shown : ditch;
                default -> own;
            };
            return rain == 0 ? next : next == 15 ? 0 : next + 1;
        }

        void pass() {
            for (int thing = 0; thing < things.size(); thing++) {
                things.get(thing)[1] = next(thing);
            }
            minute = Math.min(minute + 1, 99999);
        }

        int draw() {
            z = z * 1103515245 + 12345;
            return z >>> 8;
        }

        /** Its end, size, turned and flipped. */
        int[] chain(int pond, int steps) {
            int[] seen = {pond, 81, 0, 0};
            for (int i = 0; i < steps; i++) {
                int[] from = ponds[seen[0]];
                seen[1] = Math.min(seen[1] * from[1] / 3, 99999);
                seen[2] = (seen[2] + (seen[3] == 0 ? from[2] : 4 - from[2])) % 4;
                seen[3] = (seen[3] + from[3]) % 2;
                seen[0] = from[0];
            }
            return seen;
        }

        int end(int pond, int steps) {
            return chain(pond, steps)[0];
        }

        Set<Integer> round(int pond) {
            Set<Integer> round = new HashSet<>();
            for (int steps = 16; steps < 32; steps++) {
                round.add(end(pond, steps));
            }
            return round;
        }

        /** How it is now and behind each of n minutes. */
        List<Fen> course(int n) {
            List<Fen> course = new ArrayList<>(List.of(copy()));
            for (int i = 0; i < n; i++) {
                Fen next = course.get(i).copy();
                next.pass();
                course.add(next);
            }
            return course;
        }
    }

    Fen fen = new Fen();
    private Fen kept = null;
    private String tape = "";
    private final int[][] sheets = new int[4][];
    private final int[] bits = new int[4];
    private final List<Integer> found = new ArrayList<>();

    private static int set(int n, IntPredicate has) {
        return IntStream.range(0, n).filter(has).map(i -> 1 << i).sum();
    }

    /** The least of those with most. */
    private static int most(int n, IntUnaryOperator much) {
        int most = IntStream.range(0, n).map(much).max().orElse(0);
        return IntStream.range(0, n).filter(i -> much.applyAsInt(i) == most).findFirst().orElse(0);
    }

    private static boolean isUnder(int kind, int above) {
        return kind == above || kind >= 0 && isUnder(UNDER.get(kind), above);
    }

    private static boolean is(int v, int least, int most) {
        return least <= v && v <= most;
    }

    private static boolean isPond(int pond) {
        return is(pond, 0, 15);
    }

    private boolean isThing(int thing) {
        return is(thing, 0, fen.things.size() - 1);
    }

    private int finding(int which) {
        found.add(which);
        return which;
    }

    private int beyond() {
        return finding(Fens.BEYOND);
    }

    private int orNone(int answer) {
        return answer >= 0 ? answer : finding(Fens.NONE);
    }

    /** The first of a course that is so, or none. */
    private int first(Predicate<Fen> isSo) {
        List<Fen> course = fen.course(100);
        return orNone(IntStream.rangeClosed(0, 100).filter(i -> isSo.test(course.get(i))).findFirst().orElse(-1));
    }

    public int pond(int pond, int what) {
        if (!isPond(pond) || !is(what, 0, 7)) {
            return beyond();
        }
        return what == 6 ? fen.in(pond) : what == 7 ? fen.in(fen.shown(pond)) : fen.ponds[pond][what];
    }

    public int dig(int pond, int what, int v) {
        if (!isPond(pond) || !is(what, 0, 5) || !is(v, POND_LEAST[what], POND_MOST[what]) || what == 0 && v == pond) {
            return beyond();
        }
        int was = fen.ponds[pond][what];
        fen.ponds[pond][what] = v;
        return was;
    }

    public int thing(int kind, int pond) {
        if (!is(kind, 0, 6) || !isPond(pond)) {
            return beyond();
        }
        if (fen.things.size() == 8) {
            return finding(Fens.FULL);
        }
        fen.things.add(new int[] {kind, pond, 9});
        return fen.things.size() - 1;
    }

    public int of(int thing, int what) {
        if (!isThing(thing) || !is(what, 0, 4)) {
            return beyond();
        }
        return what == 3 ? fen.next(thing) : what == 4 ? fen.showers(fen.place(thing)) : fen.things.get(thing)[what];
    }

    public int change(int thing, int what, int v) {
        if (!isThing(thing) || !is(what, 0, 2) || !is(v, THING_LEAST[what], THING_MOST[what])) {
            return beyond();
        }
        int was = fen.things.get(thing)[what];
        fen.things.get(thing)[what] = v;
        return was;
    }

    public int rain(int v) {
        if (!is(v, 0, 1)) {
            return beyond();
        }
        int was = fen.rain;
        fen.rain = v;
        return was;
    }

    public int go(int n) {
        if (!is(n, 1, 60)) {
            return beyond();
        }
        if (fen.minute + n > 99999) {
            return finding(Fens.STATE);
        }
        fen = fen.course(n).get(n);
        return fen.minute;
    }

    public int now(int what) {
        return switch (what) {
            case 0 -> fen.minute;
            case 1 -> fen.filled();
            case 2 -> fen.sights();
            case 3 -> fen.rain;
            case 4 -> fen.things.stream().mapToInt(thing -> thing[2]).sum();
            default -> beyond();
        };
    }

    public int chain(int pond, int i, int what) {
        return isPond(pond) && is(i, 0, 16) && is(what, 0, 3) ? fen.chain(pond, i)[what] : beyond();
    }

    public int through(int pond, int thing) {
        if (!isPond(pond) || !isThing(thing)) {
            return beyond();
        }
        IntStream steps = IntStream.rangeClosed(1, 16).filter(i -> fen.end(pond, i) == fen.place(thing));
        return orNone(steps.findFirst().orElse(-1));
    }

    public int upright(int pond) {
        if (!isPond(pond)) {
            return beyond();
        }
        IntStream steps = IntStream.rangeClosed(1, 16).filter(i -> fen.chain(pond, i)[2] + fen.chain(pond, i)[3] == 0);
        return orNone(steps.findFirst().orElse(-1));
    }

    public int large(int pond, int i, int thing) {
        if (!isPond(pond) || !is(i, 0, 16) || !isThing(thing)) {
            return beyond();
        }
        int[] seen = fen.chain(pond, i);
        return seen[0] == fen.place(thing) ? fen.things.get(thing)[2] * seen[1] / 81 : finding(Fens.STATE);
    }

    public int round(int pond) {
        return isPond(pond) ? fen.round(pond).size() : beyond();
    }

    public int rounds() {
        Set<Set<Integer>> rounds = new HashSet<>();
        for (int pond = 0; pond < 16; pond++) {
            rounds.add(fen.round(pond));
        }
        return rounds.size();
    }

    public int before(int pond) {
        if (!isPond(pond)) {
            return beyond();
        }
        return IntStream.range(0, 16).filter(i -> fen.round(pond).contains(fen.end(pond, i))).findFirst().orElse(-1);
    }

    public int shownBy(int pond) {
        if (!isPond(pond)) {
            return beyond();
        }
        return set(16, from -> IntStream.rangeClosed(0, 16).anyMatch(i -> fen.end(from, i) == pond));
    }

    public int ahead(int thing, int n) {
        return isThing(thing) && is(n, 0, 100) ? fen.course(n).get(n).place(thing) : beyond();
    }

    public int comes(int thing, int pond) {
        return isThing(thing) && isPond(pond) ? first(then -> then.place(thing) == pond) : beyond();
    }

    public int seen(int thing, int pond) {
        return isThing(thing) && isPond(pond) ? first(then -> then.shown(pond) == then.place(thing)) : beyond();
    }

    public int meet(int a, int b) {
        return isThing(a) && isThing(b) && a != b ? first(then -> then.place(a) == then.place(b)) : beyond();
    }

    public int cast(int thing, int n) {
        if (!isThing(thing) || !is(n, 1, 100)) {
            return beyond();
        }
        List<Fen> course = fen.course(n).subList(1, n + 1);
        return most(16, pond -> (int) course.stream().filter(then -> then.place(thing) == pond).count());
    }

    public int kindFor(int thing) {
        return isThing(thing) ? most(7, kind -> reachAs(thing, kind)) : beyond();
    }

    private int reachAs(int thing, int kind) {
        Fen other = fen.copy();
        other.things.get(thing)[0] = kind;
        return (int) other.course(60).stream().map(then -> then.place(thing)).distinct().count();
    }

    private boolean lacks(int s) {
        return sheets[s] == null;
    }

    /** The ponds that a pond could show, as a set; or a finding. */
    private int lenses(int s, int pond) {
        if (!is(s, 0, 3)) {
            return beyond();
        }
        if (lacks(s)) {
            return finding(Fens.MISSING);
        }
        return isPond(pond) ? set(16, shown -> shown != pond && isLens(s, pond, shown)) : beyond();
    }

    private boolean isLens(int s, int pond, int shown) {
        Fen other = fen.copy();
        other.ponds[pond][0] = shown;
        List<Fen> course = other.course(sheets[s].length);
        IntPredicate isTold = i -> sheets[s][i] == -1 || sheets[s][i] == course.get(i).in(shown);
        return IntStream.range(0, sheets[s].length).allMatch(isTold);
    }

    public int fits(int s, int pond) {
        int lenses = lenses(s, pond);
        return lenses < 0 ? lenses : Integer.bitCount(lenses);
    }

    public int lens(int s, int pond) {
        int lenses = lenses(s, pond);
        return lenses < 0 ? lenses : lenses == 0 ? finding(Fens.NONE) : Integer.numberOfTrailingZeros(lenses);
    }

    public int which(int s) {
        if (!is(s, 0, 3)) {
            return beyond();
        }
        if (lacks(s)) {
            return finding(Fens.MISSING);
        }
        int[] told = sheets[s];
        List<Fen> course = fen.course(told.length);
        return set(fen.things.size(), thing -> IntStream.range(0, told.length)
            .allMatch(i -> told[i] == -1 || told[i] == course.get(i).place(thing)));
    }

    public int eyes() {
        int[] seenIn = fen.things.stream().mapToInt(thing -> fen.showers(thing[1])).toArray();
        int best = -1;
        for (int set = 65535; set >= 0; set--) {
            boolean all = true;
            for (int ponds : seenIn) {
                all &= (ponds & set) != 0;
            }
            if (all && (best < 0 || Integer.bitCount(set) <= Integer.bitCount(best))) {
                best = set;
            }
        }
        return orNone(best);
    }

    public int dredge(int thing, int what) {
        if (!isThing(thing) || !is(what, 0, 1)) {
            return beyond();
        }
        int set = set(16, pond -> fen.showers(pond) == fen.showers(fen.place(thing)));
        return what == 0 ? set : IntStream.range(0, 16).map(pond -> (set >> pond & 1) * fen.ponds[pond][5]).sum();
    }

    public int watch(int n) {
        if (!is(n, 1, 40)) {
            return beyond();
        }
        List<Fen> course = fen.course(n).subList(1, n + 1);
        return most(16, pond -> course.stream().mapToInt(then -> Integer.bitCount(then.in(then.shown(pond)))).sum());
    }

    public int falls(int n) {
        if (!is(n, 1, 20)) {
            return beyond();
        }
        if (fen.minute + n > 99999) {
            return finding(Fens.STATE);
        }
        int sights = 0;
        for (int i = 0; i < n; i++) {
            if (!fen.things.isEmpty()) {
                int[] thing = fen.things.get(fen.draw() % fen.things.size());
                thing[1] = fen.draw() % 16;
            }
            fen.pass();
            sights += Integer.bitCount(fen.sights());
        }
        return sights;
    }

    public long odds(int n, int what) {
        if (!is(n, 0, 12) || !is(what, 0, 1)) {
            return beyond();
        }
        BigInteger above = BigInteger.valueOf(16 - Integer.bitCount(fen.sights())).pow(n);
        BigInteger below = BigInteger.valueOf(16).pow(n);
        return (what == 0 ? above : below).divide(above.gcd(below)).longValueExact();
    }

    public int seed(int v) {
        int was = fen.z;
        fen.z = v;
        return was;
    }

    public int feed(int bytes, int n) {
        if (!is(n, 1, 4)) {
            return beyond();
        }
        if (tape.length() + n > 120) {
            return finding(Fens.FULL);
        }
        char[] all = {(char) (bytes >> 24 & 255), (char) (bytes >> 16 & 255), (char) (bytes >> 8 & 255), (char) (bytes & 255)};
        tape += new String(all).substring(4 - n);
        return tape.length();
    }

    public int wipe() {
        int had = tape.length();
        tape = "";
        return had;
    }

    public int text() {
        ModelText text = new ModelText(tape, fen.copy());
        tape = "";
        int items = text.read();
        fen = items > 0 ? text.fen : fen;
        return items;
    }

    public int hold(int spot, int thing) {
        if (!is(spot, 0, 9) || thing != -1 && !isThing(thing)) {
            return beyond();
        }
        fen.spots[spot] = thing;
        return 1;
    }

    public int as(int spot, int kind) {
        if (!is(spot, 0, 9) || !is(kind, 0, 6)) {
            return beyond();
        }
        int thing = fen.spots[spot];
        if (thing == -1) {
            return finding(Fens.MISSING);
        }
        return isUnder(fen.things.get(thing)[0], kind) ? thing : finding(Fens.KIND);
    }

    public int sheet(int s, int bits, int n) {
        if (!is(s, 0, 3) || !List.of(0, 8, 16, 32).contains(bits)) {
            return beyond();
        }
        if (n < 0) {
            return finding(Fens.SIZE);
        }
        if (n > 40) {
            return beyond();
        }
        this.bits[s] = bits;
        sheets[s] = bits == 0 ? null : new int[n];
        return bits == 0 ? 0 : n;
    }

    public int write(int s, int i, int v) {
        if (!is(s, 0, 3)) {
            return beyond();
        }
        if (lacks(s)) {
            return finding(Fens.MISSING);
        }
        if (!is(i, 0, sheets[s].length - 1)) {
            return beyond();
        }
        int rest = 32 - bits[s];
        sheets[s][i] = v << rest >> rest;
        return 1;
    }

    public int copy(int s, int from, int t, int to, int n) {
        if (!is(s, 0, 3) || !is(t, 0, 3)) {
            return beyond();
        }
        if (lacks(s) || lacks(t)) {
            return finding(Fens.MISSING);
        }
        if (bits[s] != bits[t]) {
            return finding(Fens.KIND);
        }
        boolean has = (long) from + n <= sheets[s].length && (long) to + n <= sheets[t].length;
        if (!has || from < 0 || to < 0 || n < 0) {
            return beyond();
        }
        int[] were = sheets[s].clone();
        for (int i = 0; i < n; i++) {
            sheets[t][to + i] = were[from + i];
        }
        return n;
    }

    public int load(int s) {
        if (!is(s, 0, 3)) {
            return beyond();
        }
        if (lacks(s)) {
            return finding(Fens.MISSING);
        }
        for (int i = 0; i < sheets[s].length; i++) {
            if (!is(sheets[s][i], 0, 99) || i == 16) {
                return i;
            }
            fen.ponds[i][5] = sheets[s][i];
        }
        return sheets[s].length;
    }

    public int judge(int s) {
        if (!is(s, 0, 3)) {
            return beyond();
        }
        if (lacks(s)) {
            return finding(Fens.MISSING);
        }
        int[] told = sheets[s];
        IntPredicate isSo = i -> isPond(told[i]) && (i == 0 || isPond(told[i - 1]) && fen.shown(told[i - 1]) == told[i]);
        return 1 + IntStream.range(0, told.length).filter(i -> !isSo.test(i)).findFirst().orElse(-1);
    }

    public int image() {
        kept = fen.copy();
        return 1;
    }

    public int undo() {
        if (kept == null) {
            return finding(Fens.NONE);
        }
        fen = kept.copy();
        return fen.minute;
    }

    public int tear() {
        int was = kept == null ? 0 : 1;
        kept = null;
        return was;
    }

    public int count(int what) {
        return switch (what) {
            case 0 -> fen.minute;
            case 1 -> fen.things.size();
            case 2 -> Integer.bitCount(fen.filled());
            case 3 -> Integer.bitCount(fen.sights());
            case 4 -> now(4);
            case 5 -> tape.length();
            case 6 -> fen.z;
            case 7 -> (int) Arrays.stream(fen.spots).filter(thing -> thing >= 0).count();
            default -> beyond();
        };
    }

    public int status(int which) {
        if (!is(which, -1, 6)) {
            return beyond();
        }
        return which == -1 ? found.size() : Collections.frequency(found, Fens.BEYOND - which);
    }
}
