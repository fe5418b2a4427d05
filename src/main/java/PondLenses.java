/** A fen whose ponds are lenses: what swims in one pond is seen in another. */
public final class PondLenses {
    private static final int BEYOND = -1000001;
    private static final int FULL = BEYOND - 1;
    private static final int WRONG_KIND = BEYOND - 2;
    private static final int NONE = BEYOND - 3;
    private static final int STATE = BEYOND - 4;
    private static final int MISSING = BEYOND - 5;
    private static final int WRONG_SIZE = BEYOND - 6;
    private static final int FINDINGS = 7;

    private static final int PONDS = 16;
    private static final int MOST_THINGS = 8;
    private static final int SPOTS = 10;
    private static final int SHEETS = 4;
    private static final int MOST_NUMBERS = 40;
    private static final int MOST_BYTES = 120;
    private static final int MOST_STEPS = 16;
    private static final int LAST_MINUTE = 99999;
    private static final int MOST_SIZE = 99999;
    private static final int WHOLE_SIZE = 81;
    private static final int FURTHEST = 100;
    private static final int KIND_MINUTES = 60;

    // What a pond has, by the numbers that pond() and dig() give it.
    private static final int SHOWS = 0;
    private static final int SIZE = 1;
    private static final int TURNED = 2;
    private static final int FLIPPED = 3;
    private static final int DITCH = 4;
    private static final int DEPTH = 5;
    private static final int[] POND_LEAST = {0, 1, 0, 0, 0, 0};
    private static final int[] POND_MOST = {15, 9, 3, 1, 15, 99};

    // What a thing has, by the numbers that of() and change() give it.
    private static final int KIND = 0;
    private static final int PLACE = 1;
    private static final int LENGTH = 2;
    private static final int[] THING_LEAST = {0, 0, 1};
    private static final int[] THING_MOST = {6, 15, 99};
    private static final int FIRST_LENGTH = 9;

    private static final int FISH = 1;
    private static final int DUCK = 2;
    private static final int FROG = 3;
    private static final int HERON = 4;
    private static final int CORK = 5;
    private static final int PIKE = 6;
    private static final int KINDS = 7;
    // Of each kind, as a set, itself and the kinds under it.
    private static final int[] KINDS_OF = {0x7F, 0x42, 0x1C, 0x18, 0x10, 0x20, 0x40};

    private final Fen fen = new Fen();
    private final Fen draft = new Fen();
    private final Fen kept = new Fen();
    private boolean keeps = false;
    private final Chain walk = new Chain();
    private final Foresight foresight = new Foresight();
    private final Tape tape = new Tape();
    private final TextReader reader = new TextReader();
    private final Sheet[] sheets = {new Sheet(), new Sheet(), new Sheet(), new Sheet()};
    private final int[] found = new int[FINDINGS];

    public PondLenses() {
    }

    // ---- ponds, things

    public int pond(int pond, int what) {
        if (!isPond(pond) || what < 0 || what > 7) {
            return finding(BEYOND);
        }
        if (what == 6) {
            return fen.thingsIn(pond);
        }
        if (what == 7) {
            return fen.thingsSeenIn(pond);
        }
        return fen.ponds[what][pond];
    }

    public int dig(int pond, int what, int v) {
        if (!isPond(pond) || !fitsPond(pond, what, v)) {
            return finding(BEYOND);
        }
        int was = fen.ponds[what][pond];
        fen.ponds[what][pond] = v;
        return was;
    }

    public int thing(int kind, int pond) {
        if (!isKind(kind) || !isPond(pond)) {
            return finding(BEYOND);
        }
        if (fen.isFull()) {
            return finding(FULL);
        }
        return fen.add(kind, pond, FIRST_LENGTH);
    }

    public int of(int thing, int what) {
        if (!fen.has(thing) || what < 0 || what > 4) {
            return finding(BEYOND);
        }
        if (what == 3) {
            return fen.nextPond(thing);
        }
        if (what == 4) {
            return fen.showersOf(fen.things[PLACE][thing]);
        }
        return fen.things[what][thing];
    }

    public int change(int thing, int what, int v) {
        if (!fen.has(thing) || !fitsThing(what, v)) {
            return finding(BEYOND);
        }
        int was = fen.things[what][thing];
        fen.things[what][thing] = v;
        return was;
    }

    public int rain(int v) {
        if (v < 0 || v > 1) {
            return finding(BEYOND);
        }
        int was = fen.rain;
        fen.rain = v;
        return was;
    }

    // ---- minutes

    public int go(int n) {
        if (n < 1 || n > 60) {
            return finding(BEYOND);
        }
        if (fen.minute > LAST_MINUTE - n) {
            return finding(STATE);
        }
        for (int i = 0; i < n; i++) {
            fen.passMinute();
        }
        return fen.minute;
    }

    public int now(int what) {
        switch (what) {
            case 0:
                return fen.minute;
            case 1:
                return fen.pondsWithThings();
            case 2:
                return fen.pondsWithSights();
            case 3:
                return fen.rain;
            case 4:
                return fen.lengths();
            default:
                return finding(BEYOND);
        }
    }

    // ---- chains

    public int chain(int pond, int i, int what) {
        if (!isPond(pond) || !isSteps(i) || what < 0 || what > 3) {
            return finding(BEYOND);
        }
        walk.take(fen, pond, i);
        switch (what) {
            case 0:
                return walk.end;
            case 1:
                return walk.size;
            case 2:
                return walk.turned;
            default:
                return walk.flipped;
        }
    }

    public int through(int pond, int thing) {
        if (!isPond(pond) || !fen.has(thing)) {
            return finding(BEYOND);
        }
        walk.begin(pond);
        for (int i = 1; i <= MOST_STEPS; i++) {
            walk.step(fen);
            if (walk.end == fen.things[PLACE][thing]) {
                return i;
            }
        }
        return finding(NONE);
    }

    public int upright(int pond) {
        if (!isPond(pond)) {
            return finding(BEYOND);
        }
        walk.begin(pond);
        for (int i = 1; i <= MOST_STEPS; i++) {
            walk.step(fen);
            if (walk.turned == 0 && walk.flipped == 0) {
                return i;
            }
        }
        return finding(NONE);
    }

    public int large(int pond, int i, int thing) {
        if (!isPond(pond) || !isSteps(i) || !fen.has(thing)) {
            return finding(BEYOND);
        }
        walk.take(fen, pond, i);
        if (walk.end != fen.things[PLACE][thing]) {
            return finding(STATE);
        }
        return fen.things[LENGTH][thing] * walk.size / WHOLE_SIZE;
    }

    public int round(int pond) {
        if (!isPond(pond)) {
            return finding(BEYOND);
        }
        return fen.roundLength(fen.chainEnd(pond, MOST_STEPS));
    }

    public int rounds() {
        int count = 0;
        for (int pond = 0; pond < PONDS; pond++) {
            if (fen.isLeastOfRound(pond)) {
                count++;
            }
        }
        return count;
    }

    public int before(int pond) {
        if (!isPond(pond)) {
            return finding(BEYOND);
        }
        int at = pond;
        int steps = 0;
        while (steps < PONDS && fen.roundLength(at) == 0) {
            at = fen.ponds[SHOWS][at];
            steps++;
        }
        return steps;
    }

    public int shownBy(int pond) {
        if (!isPond(pond)) {
            return finding(BEYOND);
        }
        int set = 0;
        for (int from = 0; from < PONDS; from++) {
            if (fen.chainComes(from, pond)) {
                set |= 1 << from;
            }
        }
        return set;
    }

    // ---- what will be (nothing changes)

    public int ahead(int thing, int n) {
        if (!fen.has(thing) || n < 0 || n > FURTHEST) {
            return finding(BEYOND);
        }
        draft.become(fen);
        for (int i = 0; i < n; i++) {
            draft.passMinute();
        }
        return draft.things[PLACE][thing];
    }

    public int comes(int thing, int pond) {
        if (!fen.has(thing) || !isPond(pond)) {
            return finding(BEYOND);
        }
        draft.become(fen);
        return findingOrAnswer(foresight.minutesTo(draft, thing, pond));
    }

    public int seen(int thing, int pond) {
        if (!fen.has(thing) || !isPond(pond)) {
            return finding(BEYOND);
        }
        draft.become(fen);
        return findingOrAnswer(foresight.minutesTo(draft, thing, fen.ponds[SHOWS][pond]));
    }

    public int meet(int a, int b) {
        if (!fen.has(a) || !fen.has(b) || a == b) {
            return finding(BEYOND);
        }
        draft.become(fen);
        return findingOrAnswer(foresight.minutesToMeeting(draft, a, b));
    }

    public int cast(int thing, int n) {
        if (!fen.has(thing) || n < 1 || n > FURTHEST) {
            return finding(BEYOND);
        }
        draft.become(fen);
        return foresight.usualPond(draft, thing, n);
    }

    public int kindFor(int thing) {
        if (!fen.has(thing)) {
            return finding(BEYOND);
        }
        int best = 0;
        int most = -1;
        for (int kind = 0; kind < KINDS; kind++) {
            draft.become(fen);
            draft.things[KIND][thing] = kind;
            int reach = Integer.bitCount(foresight.pondsVisited(draft, thing));
            if (reach > most) {
                most = reach;
                best = kind;
            }
        }
        return best;
    }

    // ---- sights that were told

    public int fits(int s, int pond) {
        int lack = lackOfSight(s, pond);
        if (lack != 0) {
            return finding(lack);
        }
        return Integer.bitCount(lensesFor(sheets[s], pond));
    }

    public int lens(int s, int pond) {
        int lack = lackOfSight(s, pond);
        if (lack != 0) {
            return finding(lack);
        }
        int lenses = lensesFor(sheets[s], pond);
        if (lenses == 0) {
            return finding(NONE);
        }
        return Integer.numberOfTrailingZeros(lenses);
    }

    public int which(int s) {
        int lack = lackOfSheet(s);
        if (lack != 0) {
            return finding(lack);
        }
        draft.become(fen);
        return foresight.thingsOnCourse(draft, sheets[s]);
    }

    // ---- eyes, dredging

    public int eyes() {
        int filled = fen.pondsWithThings();
        int set = 0;
        for (int pond = 0; pond < PONDS; pond++) {
            if ((filled >> pond & 1) != 0) {
                int showers = fen.showersOf(pond);
                if (showers == 0) {
                    return finding(NONE);
                }
                // An eye sees into one pond alone, so each filled one wants its own, the least.
                set |= Integer.lowestOneBit(showers);
            }
        }
        return set;
    }

    public int dredge(int thing, int what) {
        if (!fen.has(thing) || what < 0 || what > 1) {
            return finding(BEYOND);
        }
        int told = fen.showersOf(fen.things[PLACE][thing]);
        int set = 0;
        int depths = 0;
        for (int pond = 0; pond < PONDS; pond++) {
            if (fen.showersOf(pond) == told) {
                set |= 1 << pond;
                depths += fen.ponds[DEPTH][pond];
            }
        }
        return what == 0 ? set : depths;
    }

    public int watch(int n) {
        if (n < 1 || n > 40) {
            return finding(BEYOND);
        }
        draft.become(fen);
        return foresight.busiestPond(draft, n);
    }

    // ---- falls

    public int falls(int n) {
        if (n < 1 || n > 20) {
            return finding(BEYOND);
        }
        if (fen.minute > LAST_MINUTE - n) {
            return finding(STATE);
        }
        int sights = 0;
        for (int i = 0; i < n; i++) {
            fen.dropOne();
            fen.passMinute();
            sights += Integer.bitCount(fen.pondsWithSights());
        }
        return sights;
    }

    public long odds(int n, int what) {
        if (n < 0 || n > 12 || what < 0 || what > 1) {
            return finding(BEYOND);
        }
        int above = PONDS - Integer.bitCount(fen.pondsWithSights());
        int below = PONDS;
        // PONDS is a power of 2, so halving alone brings the lowest terms.
        while (below > 1 && above % 2 == 0) {
            above /= 2;
            below /= 2;
        }
        int base = what == 0 ? above : below;
        long power = 1;
        for (int i = 0; i < n; i++) {
            power *= base;
        }
        return power;
    }

    public int seed(int v) {
        int was = fen.z;
        fen.z = v;
        return was;
    }

    // ---- texts

    public int feed(int bytes, int n) {
        if (n < 1 || n > 4) {
            return finding(BEYOND);
        }
        if (n > MOST_BYTES - tape.length) {
            return finding(FULL);
        }
        for (int i = n - 1; i >= 0; i--) {
            tape.append(bytes >>> (8 * i) & 255);
        }
        return tape.length;
    }

    public int wipe() {
        int had = tape.length;
        tape.length = 0;
        return had;
    }

    public int text() {
        draft.become(fen);
        int items = reader.read(tape, draft);
        if (items > 0) {
            fen.become(draft);
        }
        tape.length = 0;
        return items;
    }

    // ---- spots, sheets

    public int hold(int spot, int thing) {
        if (!isSpot(spot) || thing != -1 && !fen.has(thing)) {
            return finding(BEYOND);
        }
        fen.spots[spot] = thing;
        return 1;
    }

    public int as(int spot, int kind) {
        if (!isSpot(spot) || !isKind(kind)) {
            return finding(BEYOND);
        }
        int thing = fen.spots[spot];
        if (!fen.has(thing)) {
            return finding(MISSING);
        }
        if (!fen.isOfKind(thing, kind)) {
            return finding(WRONG_KIND);
        }
        return thing;
    }

    public int sheet(int s, int bits, int n) {
        if (!isSheet(s) || !isBits(bits)) {
            return finding(BEYOND);
        }
        if (n < 0) {
            return finding(WRONG_SIZE);
        }
        if (n > MOST_NUMBERS) {
            return finding(BEYOND);
        }
        sheets[s].clear(bits, n);
        return sheets[s].length;
    }

    public int write(int s, int i, int v) {
        int lack = lackOfSheet(s);
        if (lack == 0 && (i < 0 || i >= sheets[s].length)) {
            lack = BEYOND;
        }
        if (lack != 0) {
            return finding(lack);
        }
        sheets[s].put(i, v);
        return 1;
    }

    public int copy(int s, int from, int t, int to, int n) {
        if (!isSheet(s) || !isSheet(t)) {
            return finding(BEYOND);
        }
        Sheet source = sheets[s];
        Sheet target = sheets[t];
        if (source.isMissing() || target.isMissing()) {
            return finding(MISSING);
        }
        if (source.bits != target.bits) {
            return finding(WRONG_KIND);
        }
        if (!source.reaches(from, n) || !target.reaches(to, n)) {
            return finding(BEYOND);
        }
        System.arraycopy(source.numbers, from, target.numbers, to, n);
        return n;
    }

    public int load(int s) {
        int lack = lackOfSheet(s);
        if (lack != 0) {
            return finding(lack);
        }
        Sheet sheet = sheets[s];
        int came = 0;
        while (came < sheet.length && fitsDepth(came, sheet.numbers[came])) {
            fen.ponds[DEPTH][came] = sheet.numbers[came];
            came++;
        }
        return came;
    }

    public int judge(int s) {
        int lack = lackOfSheet(s);
        if (lack != 0) {
            return finding(lack);
        }
        Sheet sheet = sheets[s];
        for (int i = 0; i < sheet.length; i++) {
            int pond = sheet.numbers[i];
            // A number ahead of this one has been found to be a pond already.
            if (!isPond(pond) || i > 0 && fen.ponds[SHOWS][sheet.numbers[i - 1]] != pond) {
                return 1 + i;
            }
        }
        return 0;
    }

    // ---- images

    public int image() {
        kept.become(fen);
        keeps = true;
        return 1;
    }

    public int undo() {
        if (!keeps) {
            return finding(NONE);
        }
        fen.become(kept);
        return fen.minute;
    }

    public int tear() {
        int was = keeps ? 1 : 0;
        keeps = false;
        return was;
    }

    public int count(int what) {
        switch (what) {
            case 0:
                return fen.minute;
            case 1:
                return fen.size;
            case 2:
                return Integer.bitCount(fen.pondsWithThings());
            case 3:
                return Integer.bitCount(fen.pondsWithSights());
            case 4:
                return fen.lengths();
            case 5:
                return tape.length;
            case 6:
                return fen.z;
            case 7:
                return fen.spotsInUse();
            default:
                return finding(BEYOND);
        }
    }

    public int status(int which) {
        if (which < -1 || which >= FINDINGS) {
            return finding(BEYOND);
        }
        if (which >= 0) {
            return found[which];
        }
        int all = 0;
        for (int count : found) {
            all += count;
        }
        return all;
    }

    // ---- findings and limits

    private int finding(int which) {
        int place = BEYOND - which;
        if (place >= 0 && place < FINDINGS) {
            found[place]++;
        }
        return which;
    }

    private int findingOrAnswer(int answer) {
        return answer == NONE ? finding(NONE) : answer;
    }

    /** 0 if there is such a sheet with numbers, else the finding that tells why not. */
    private int lackOfSheet(int s) {
        if (!isSheet(s)) {
            return BEYOND;
        }
        return sheets[s].isMissing() ? MISSING : 0;
    }

    private int lackOfSight(int s, int pond) {
        int lack = lackOfSheet(s);
        return lack == 0 && !isPond(pond) ? BEYOND : lack;
    }

    /** The ponds, as a set, that a pond could show so that its sights are those of the sheet. */
    private int lensesFor(Sheet sheet, int pond) {
        int set = 0;
        for (int shown = 0; shown < PONDS; shown++) {
            if (shown != pond) {
                draft.become(fen);
                draft.ponds[SHOWS][pond] = shown;
                if (foresight.showsAsTold(draft, pond, sheet)) {
                    set |= 1 << shown;
                }
            }
        }
        return set;
    }

    private static boolean isPond(int pond) {
        return pond >= 0 && pond < PONDS;
    }

    private static boolean isKind(int kind) {
        return kind >= 0 && kind < KINDS;
    }

    private static boolean isSpot(int spot) {
        return spot >= 0 && spot < SPOTS;
    }

    private static boolean isSheet(int s) {
        return s >= 0 && s < SHEETS;
    }

    private static boolean isBits(int bits) {
        return bits == 0 || bits == 8 || bits == 16 || bits == 32;
    }

    private static boolean isSteps(int i) {
        return i >= 0 && i <= MOST_STEPS;
    }

    private static boolean fitsPond(int pond, int what, int v) {
        if (what < SHOWS || what > DEPTH) {
            return false;
        }
        if (what == SHOWS && v == pond) {
            return false;
        }
        return v >= POND_LEAST[what] && v <= POND_MOST[what];
    }

    private static boolean fitsThing(int what, int v) {
        if (what < KIND || what > LENGTH) {
            return false;
        }
        return v >= THING_LEAST[what] && v <= THING_MOST[what];
    }

    private static boolean fitsDepth(int pond, int v) {
        return isPond(pond) && fitsPond(pond, DEPTH, v);
    }

    /**
     * All that an image keeps. The ponds that it holds (shown, by ditches, where things are) are
     * 0 to 15 always, the kinds 0 to 6: only tested numbers come in.
     */
    private static final class Fen {
        final int[][] ponds = new int[DEPTH + 1][PONDS];
        final int[][] things = new int[LENGTH + 1][MOST_THINGS];
        final int[] spots = new int[SPOTS];
        int size = 0;
        int rain = 0;
        int minute = 0;
        int z = 1;

        Fen() {
            for (int pond = 0; pond < PONDS; pond++) {
                ponds[SHOWS][pond] = (pond + 1) % PONDS;
                ponds[SIZE][pond] = 3;
                ponds[DITCH][pond] = pond;
                ponds[DEPTH][pond] = 10;
            }
            for (int spot = 0; spot < SPOTS; spot++) {
                spots[spot] = -1;
            }
        }

        void become(Fen other) {
            for (int what = SHOWS; what <= DEPTH; what++) {
                System.arraycopy(other.ponds[what], 0, ponds[what], 0, PONDS);
            }
            for (int what = KIND; what <= LENGTH; what++) {
                System.arraycopy(other.things[what], 0, things[what], 0, MOST_THINGS);
            }
            System.arraycopy(other.spots, 0, spots, 0, SPOTS);
            size = other.size;
            rain = other.rain;
            minute = other.minute;
            z = other.z;
        }

        boolean has(int thing) {
            return thing >= 0 && thing < size;
        }

        boolean isFull() {
            return size >= MOST_THINGS;
        }

        /** Asked only of a fen that isn't full. */
        int add(int kind, int pond, int length) {
            int thing = size;
            if (thing < MOST_THINGS) {
                things[KIND][thing] = kind;
                things[PLACE][thing] = pond;
                things[LENGTH][thing] = length;
                size++;
            }
            return thing;
        }

        boolean isOfKind(int thing, int kind) {
            return (KINDS_OF[kind] >> things[KIND][thing] & 1) != 0;
        }

        int thingsIn(int pond) {
            int set = 0;
            for (int thing = 0; thing < size; thing++) {
                if (things[PLACE][thing] == pond) {
                    set |= 1 << thing;
                }
            }
            return set;
        }

        int thingsSeenIn(int pond) {
            return thingsIn(ponds[SHOWS][pond]);
        }

        /** The ponds, as a set, that show a pond: in these is seen what is in it. */
        int showersOf(int pond) {
            int set = 0;
            for (int from = 0; from < PONDS; from++) {
                if (ponds[SHOWS][from] == pond) {
                    set |= 1 << from;
                }
            }
            return set;
        }

        int pondsWithThings() {
            int set = 0;
            for (int thing = 0; thing < size; thing++) {
                set |= 1 << things[PLACE][thing];
            }
            return set;
        }

        int pondsWithSights() {
            int filled = pondsWithThings();
            int set = 0;
            for (int pond = 0; pond < PONDS; pond++) {
                if ((filled >> ponds[SHOWS][pond] & 1) != 0) {
                    set |= 1 << pond;
                }
            }
            return set;
        }

        int lengths() {
            int sum = 0;
            for (int thing = 0; thing < size; thing++) {
                sum += things[LENGTH][thing];
            }
            return sum;
        }

        int spotsInUse() {
            int used = 0;
            for (int thing : spots) {
                if (thing >= 0) {
                    used++;
                }
            }
            return used;
        }

        void passMinute() {
            for (int thing = 0; thing < size; thing++) {
                things[PLACE][thing] = nextPond(thing);
            }
            minute = Math.min(minute + 1, LAST_MINUTE);
        }

        int nextPond(int thing) {
            int own = things[PLACE][thing];
            int next = own;
            switch (things[KIND][thing]) {
                case FISH:
                    next = ponds[DITCH][own];
                    break;
                case DUCK:
                    next = ponds[SHOWS][own];
                    break;
                case FROG:
                    next = nextOfFrog(own);
                    break;
                case HERON:
                    next = nextOfHeron(own);
                    break;
                case CORK:
                    next = ponds[DEPTH][own] < things[LENGTH][thing] ? ponds[DITCH][own] : own;
                    break;
                case PIKE:
                    next = nextOfPike(own);
                    break;
                default:
                    break;
            }
            return (next + rain) % PONDS;
        }

        private int nextOfFrog(int own) {
            return minute % 2 == 0 ? ponds[SHOWS][own] : own;
        }

        private int nextOfHeron(int own) {
            for (int from = 0; from < PONDS; from++) {
                if (ponds[SHOWS][from] == own) {
                    // The least alone counts, whether a further one has a fish or not.
                    return hasFishIn(from) ? from : nextOfFrog(own);
                }
            }
            return nextOfFrog(own);
        }

        private int nextOfPike(int own) {
            // No pond shows itself: a fish in the shown one is another one than this pike.
            int shown = ponds[SHOWS][own];
            return hasFishIn(shown) ? shown : ponds[DITCH][own];
        }

        private boolean hasFishIn(int pond) {
            for (int thing = 0; thing < size; thing++) {
                boolean isFish = (KINDS_OF[FISH] >> things[KIND][thing] & 1) != 0;
                if (isFish && things[PLACE][thing] == pond) {
                    return true;
                }
            }
            return false;
        }

        private int draw() {
            z = z * 1103515245 + 12345;
            return z >>> 8;
        }

        /** A thing that is drawn comes to be in a pond that is drawn. */
        void dropOne() {
            if (size > 0) {
                int thing = draw() % size;
                things[PLACE][thing] = draw() % PONDS;
            }
        }

        int chainEnd(int pond, int steps) {
            int at = pond;
            for (int i = 0; i < steps; i++) {
                at = ponds[SHOWS][at];
            }
            return at;
        }

        boolean chainComes(int from, int pond) {
            int at = from;
            for (int i = 0; i < MOST_STEPS && at != pond; i++) {
                at = ponds[SHOWS][at];
            }
            return at == pond;
        }

        /** Of how many ponds the round of a pond is; 0 if the pond is of none. */
        int roundLength(int pond) {
            int at = pond;
            for (int steps = 1; steps <= PONDS; steps++) {
                at = ponds[SHOWS][at];
                if (at == pond) {
                    return steps;
                }
            }
            return 0;
        }

        boolean isLeastOfRound(int pond) {
            int length = roundLength(pond);
            int at = pond;
            for (int i = 1; i < length; i++) {
                at = ponds[SHOWS][at];
                if (at < pond) {
                    return false;
                }
            }
            return length > 0;
        }
    }

    /** A chain that is gone step by step, and what is seen through it. */
    private static final class Chain {
        int end = 0;
        int size = WHOLE_SIZE;
        int turned = 0;
        int flipped = 0;

        void begin(int pond) {
            end = pond;
            size = WHOLE_SIZE;
            turned = 0;
            flipped = 0;
        }

        void step(Fen fen) {
            int turn = fen.ponds[TURNED][end];
            size = Math.min(size * fen.ponds[SIZE][end] / 3, MOST_SIZE);
            turned = Math.floorMod(flipped == 1 ? turned - turn : turned + turn, 4);
            flipped ^= fen.ponds[FLIPPED][end];
            end = fen.ponds[SHOWS][end];
        }

        void take(Fen fen, int pond, int steps) {
            begin(pond);
            for (int i = 0; i < steps; i++) {
                step(fen);
            }
        }
    }

    /** What will be. Each function drives the fen that it gets, so it gets a draft. */
    private static final class Foresight {
        private final int[] tally = new int[PONDS];

        int minutesTo(Fen draft, int thing, int pond) {
            for (int i = 0; i <= FURTHEST; i++) {
                if (draft.things[PLACE][thing] == pond) {
                    return i;
                }
                draft.passMinute();
            }
            return NONE;
        }

        int minutesToMeeting(Fen draft, int a, int b) {
            for (int i = 0; i <= FURTHEST; i++) {
                if (draft.things[PLACE][a] == draft.things[PLACE][b]) {
                    return i;
                }
                draft.passMinute();
            }
            return NONE;
        }

        int usualPond(Fen draft, int thing, int minutes) {
            clearTally();
            for (int i = 0; i < minutes; i++) {
                draft.passMinute();
                tally[draft.things[PLACE][thing]]++;
            }
            return leastOfMost();
        }

        int pondsVisited(Fen draft, int thing) {
            int set = 1 << draft.things[PLACE][thing];
            for (int i = 0; i < KIND_MINUTES; i++) {
                draft.passMinute();
                set |= 1 << draft.things[PLACE][thing];
            }
            return set;
        }

        boolean showsAsTold(Fen draft, int pond, Sheet sheet) {
            for (int i = 0; i < sheet.length; i++) {
                int told = sheet.numbers[i];
                if (told != -1 && told != draft.thingsSeenIn(pond)) {
                    return false;
                }
                draft.passMinute();
            }
            return true;
        }

        int thingsOnCourse(Fen draft, Sheet sheet) {
            int set = (1 << draft.size) - 1;
            for (int i = 0; i < sheet.length; i++) {
                int told = sheet.numbers[i];
                if (told != -1) {
                    set &= draft.thingsIn(told);
                }
                draft.passMinute();
            }
            return set;
        }

        int busiestPond(Fen draft, int minutes) {
            clearTally();
            for (int i = 0; i < minutes; i++) {
                draft.passMinute();
                for (int pond = 0; pond < PONDS; pond++) {
                    tally[pond] += Integer.bitCount(draft.thingsSeenIn(pond));
                }
            }
            return leastOfMost();
        }

        private void clearTally() {
            for (int pond = 0; pond < PONDS; pond++) {
                tally[pond] = 0;
            }
        }

        private int leastOfMost() {
            int best = 0;
            for (int pond = 1; pond < PONDS; pond++) {
                if (tally[pond] > tally[best]) {
                    best = pond;
                }
            }
            return best;
        }
    }

    /** A row of numbers; one of 0 bits is missing. */
    private static final class Sheet {
        final int[] numbers = new int[MOST_NUMBERS];
        int bits = 0;
        int length = 0;

        boolean isMissing() {
            return bits == 0;
        }

        void clear(int newBits, int n) {
            for (int i = 0; i < MOST_NUMBERS; i++) {
                numbers[i] = 0;
            }
            bits = newBits;
            length = newBits == 0 ? 0 : n;
        }

        void put(int i, int v) {
            switch (bits) {
                case 8:
                    numbers[i] = (byte) v;
                    break;
                case 16:
                    numbers[i] = (short) v;
                    break;
                default:
                    numbers[i] = v;
                    break;
            }
        }

        boolean reaches(int from, int n) {
            // Told by a difference, as a sum of two ints could wrap around.
            return from >= 0 && n >= 0 && from <= length && n <= length - from;
        }
    }

    private static final class Tape {
        final int[] bytes = new int[MOST_BYTES];
        int length = 0;

        void append(int b) {
            if (length < MOST_BYTES) {
                bytes[length] = b;
                length++;
            }
        }

        /** -1 behind the last byte. */
        int at(int place) {
            return place >= 0 && place < length ? bytes[place] : -1;
        }

        boolean says(String word, int begin, int end) {
            if (end - begin != word.length()) {
                return false;
            }
            for (int i = 0; i < word.length(); i++) {
                if (at(begin + i) != word.charAt(i)) {
                    return false;
                }
            }
            return true;
        }
    }

    /** The tokens of a tape, in rows; behind the last one stands one more that is the end. */
    private static final class Tokens {
        static final int AT_END = 0;
        static final int WORD = 1;
        static final int NUMBER = 2;
        static final int SIGN = 3;
        static final int NO_TOKEN = 4;

        // Words by their numbers: of kinds, then of what a pond has, each in its own order.
        static final int TRAITS = KINDS;
        static final int IN = TRAITS + DEPTH + 1;
        static final int LONG = IN + 1;
        static final int POND = IN + 2;
        static final int RAIN = IN + 3;
        static final int DRY = IN + 4;
        static final int UNKNOWN = IN + 5;

        private static final int TOO_MUCH = 1000;

        private final int[] sorts = new int[MOST_BYTES + 1];
        private final int[] begins = new int[MOST_BYTES + 1];
        private final int[] values = new int[MOST_BYTES + 1];
        private int at = 0;

        void take(Tape tape) {
            int count = 0;
            int place = 0;
            while (place < tape.length && count < MOST_BYTES) {
                if (tape.at(place) == ' ') {
                    place++;
                } else {
                    begins[count] = place;
                    place = takeOne(tape, place, count);
                    count++;
                }
            }
            sorts[count] = AT_END;
            begins[count] = tape.length;
            at = 0;
        }

        int begin() {
            return begins[at];
        }

        int value() {
            return values[at];
        }

        boolean isSort(int sort) {
            return sorts[at] == sort;
        }

        boolean isWord(int word) {
            return sorts[at] == WORD && values[at] == word;
        }

        void advance() {
            if (sorts[at] != AT_END && at < MOST_BYTES) {
                at++;
            }
        }

        /** Answers the place behind the token. */
        private int takeOne(Tape tape, int begin, int count) {
            int first = tape.at(begin);
            int end = begin + 1;
            if (isLetter(first)) {
                while (isLetter(tape.at(end)) && end < MOST_BYTES) {
                    end++;
                }
                sorts[count] = WORD;
                values[count] = wordAt(tape, begin, end);
            } else if (isDigit(first)) {
                int value = first - '0';
                while (isDigit(tape.at(end)) && end < MOST_BYTES) {
                    // What is too much fits nowhere: how much too much it is need not be known.
                    value = Math.min(value * 10 + tape.at(end) - '0', TOO_MUCH);
                    end++;
                }
                sorts[count] = NUMBER;
                values[count] = value;
            } else {
                sorts[count] = first == ';' ? SIGN : NO_TOKEN;
            }
            return end;
        }

        private static boolean isLetter(int b) {
            return b >= 'a' && b <= 'z';
        }

        private static boolean isDigit(int b) {
            return b >= '0' && b <= '9';
        }

        private static int wordAt(Tape tape, int begin, int end) {
            int word = 0;
            while (word < UNKNOWN && !tape.says(nameOf(word), begin, end)) {
                word++;
            }
            return word;
        }

        private static String nameOf(int word) {
            switch (word) {
                case FISH:
                    return "fish";
                case DUCK:
                    return "duck";
                case FROG:
                    return "frog";
                case HERON:
                    return "heron";
                case CORK:
                    return "cork";
                case PIKE:
                    return "pike";
                case TRAITS + SHOWS:
                    return "shows";
                case TRAITS + SIZE:
                    return "size";
                case TRAITS + TURNED:
                    return "turned";
                case TRAITS + FLIPPED:
                    return "flipped";
                case TRAITS + DITCH:
                    return "ditch";
                case TRAITS + DEPTH:
                    return "depth";
                case IN:
                    return "in";
                case LONG:
                    return "long";
                case POND:
                    return "pond";
                case RAIN:
                    return "rain";
                case DRY:
                    return "dry";
                default:
                    return "thing";
            }
        }
    }

    /** Reads a text into a draft; what a faulty text has left in that is of no use. */
    private static final class TextReader {
        private final Tokens tokens = new Tokens();
        private int fault = -1;

        /** How many items there are, or -1 less the fault. */
        int read(Tape tape, Fen draft) {
            fault = -1;
            tokens.take(tape);
            readItem(draft);
            int items = 1;
            while (hasSign() && items <= MOST_BYTES) {
                tokens.advance();
                readItem(draft);
                items++;
            }
            if (!tokens.isSort(Tokens.AT_END)) {
                fail();
            }
            return fault >= 0 ? -1 - fault : items;
        }

        private void readItem(Fen draft) {
            if (hasKind()) {
                readThing(draft);
            } else if (hasWord(Tokens.POND)) {
                tokens.advance();
                readPond(draft);
            } else if (hasWord(Tokens.RAIN)) {
                tokens.advance();
                draft.rain = 1;
            } else if (hasWord(Tokens.DRY)) {
                tokens.advance();
                draft.rain = 0;
            } else {
                fail();
            }
        }

        private void readThing(Fen draft) {
            if (draft.isFull()) {
                fail();
                return;
            }
            int kind = tokens.value();
            int place = 0;
            int length = FIRST_LENGTH;
            tokens.advance();
            if (hasWord(Tokens.IN)) {
                tokens.advance();
                place = readNumber(THING_LEAST[PLACE], THING_MOST[PLACE], -1);
            }
            if (hasWord(Tokens.LONG)) {
                tokens.advance();
                length = readNumber(THING_LEAST[LENGTH], THING_MOST[LENGTH], -1);
            }
            draft.add(kind, place, length);
        }

        private void readPond(Fen draft) {
            int pond = readNumber(0, PONDS - 1, -1);
            for (int what = SHOWS; what <= DEPTH; what++) {
                if (hasWord(Tokens.TRAITS + what)) {
                    tokens.advance();
                    // The word flipped says all itself; behind each other one stands a number.
                    draft.ponds[what][pond] = what == FLIPPED ? 1
                        : readNumber(POND_LEAST[what], POND_MOST[what], what == SHOWS ? pond : -1);
                }
            }
        }

        /** The number that stands here, if it is as told; else there is a fault, and the least. */
        private int readNumber(int least, int most, int except) {
            int value = tokens.value();
            if (!hasNumber() || value < least || value > most || value == except) {
                fail();
                return least;
            }
            tokens.advance();
            return value;
        }

        // Behind a fault nothing stands where it could, so that the reading comes to its end.

        private boolean hasWord(int word) {
            return fault < 0 && tokens.isWord(word);
        }

        private boolean hasKind() {
            return fault < 0 && tokens.isSort(Tokens.WORD) && tokens.value() < KINDS;
        }

        private boolean hasNumber() {
            return fault < 0 && tokens.isSort(Tokens.NUMBER);
        }

        private boolean hasSign() {
            return fault < 0 && tokens.isSort(Tokens.SIGN);
        }

        private void fail() {
            if (fault < 0) {
                fault = tokens.begin();
            }
        }
    }
}
