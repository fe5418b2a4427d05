/** Any arguments in any state: each call ends and answers, and a finding is counted. */
public final class LimitsTest {
    private static final Due due = new Due();
    private static final int[] FAR = {
        Integer.MIN_VALUE, Integer.MIN_VALUE + 1, -1000001, -65536, -2, -1, 0, 1, 2, 3, 4, 5, 6, 7, 8, 9, 10, 15, 16, 17,
        39, 40, 41, 60, 99, 100, 101, 255, 999, 99999, Integer.MAX_VALUE - 1, Integer.MAX_VALUE,
    };
    private static final int CALLS = 47;

    public static void main(String[] args) {
        for (int run = 0; run < 400; run++) {
            wild(new Fens(1000 + run), run % 2 == 0 ? FAR.length : 12);
        }
        lateMinutes();
        lateCalls();
        due.end();
    }

    private static void wild(Fens fens, int reach) {
        PondLenses x = fens.draw(2) == 0 ? new PondLenses() : fens.fen();
        int findings = x.status(-1);
        for (int i = 0; i < 200; i++) {
            int call = fens.draw(CALLS);
            int[] a = new int[5];
            for (int k = 0; k < 5; k++) {
                a[k] = reach == FAR.length ? FAR[fens.draw(FAR.length)] : fens.draw(reach) - 1;
            }
            long answer = one(x, call, a);
            // z may be any int, so that what tells it is no finding.
            boolean tellsZ = call == 31 || call == 45 && a[0] == 6;
            if (!tellsZ && answer <= Fens.BEYOND && answer >= Fens.SIZE) {
                findings++;
            }
            due.is("47 behind call " + call, findings, x.status(-1));
        }
        invariants(x);
    }

    private static void invariants(PondLenses x) {
        int[] least = {0, 1, 0, 0, 0, 0, 0, 0};
        int[] most = {15, 9, 3, 1, 15, 99, 255, 255};
        for (int pond = 0; pond < 16; pond++) {
            for (int what = 0; what <= 7; what++) {
                int v = x.pond(pond, what);
                due.is("pond " + what + " is " + v, 1, v >= least[what] && v <= most[what] ? 1 : 0);
            }
            due.is("not itself", 1, x.pond(pond, 0) != pond ? 1 : 0);
        }
        due.is("at most 8 things", 1, x.count(1) <= 8 ? 1 : 0);
        due.is("at most 120 bytes", 1, x.count(5) <= 120 ? 1 : 0);
    }

    private static long one(PondLenses x, int call, int[] a) {
        switch (call) {
            case 0: return x.pond(a[0], a[1]);
            case 1: return x.dig(a[0], a[1], a[2]);
            case 2: return x.thing(a[0], a[1]);
            case 3: return x.of(a[0], a[1]);
            case 4: return x.change(a[0], a[1], a[2]);
            case 5: return x.rain(a[0]);
            case 6: return x.go(a[0]);
            case 7: return x.now(a[0]);
            case 8: return x.chain(a[0], a[1], a[2]);
            case 9: return x.through(a[0], a[1]);
            case 10: return x.upright(a[0]);
            case 11: return x.large(a[0], a[1], a[2]);
            case 12: return x.round(a[0]);
            case 13: return x.rounds();
            case 14: return x.before(a[0]);
            case 15: return x.shownBy(a[0]);
            case 16: return x.ahead(a[0], a[1]);
            case 17: return x.comes(a[0], a[1]);
            case 18: return x.seen(a[0], a[1]);
            case 19: return x.meet(a[0], a[1]);
            case 20: return x.cast(a[0], a[1]);
            case 21: return x.kindFor(a[0]);
            case 22: return x.fits(a[0], a[1]);
            case 23: return x.lens(a[0], a[1]);
            case 24: return x.which(a[0]);
            case 25: return x.eyes();
            case 26: return x.dredge(a[0], a[1]);
            case 27: return x.watch(a[0]);
            case 28: return x.falls(a[0]);
            case 29: return x.odds(a[0], a[1]);
            default: return oneMore(x, call, a);
        }
    }

    private static long oneMore(PondLenses x, int call, int[] a) {
        switch (call) {
            case 30: return x.feed(a[0], a[1]);
            case 31: return x.seed(a[0]);
            case 32: return x.wipe();
            case 33: return x.text();
            case 34: return x.hold(a[0], a[1]);
            case 35: return x.as(a[0], a[1]);
            case 36: return x.sheet(a[0], a[1], a[2]);
            case 37: return x.write(a[0], a[1], a[2]);
            case 38: return x.copy(a[0], a[1], a[2], a[3], a[4]);
            case 39: return x.load(a[0]);
            case 40: return x.judge(a[0]);
            case 41: return x.image();
            case 42: return x.undo();
            case 43: return x.tear();
            case 44: return x.now(3);
            case 45: return x.count(a[0]);
            default: return x.status(a[0]);
        }
    }

    /** Many calls on one object, up to the 512th, answer as the first of them do. */
    private static void lateCalls() {
        for (int call = 0; call < CALLS; call++) {
            PondLenses x = Fens.lived();
            Fens.row(x, 3, 32, -1, 0, -1, -1);
            PondLenses y = Fens.lived();
            Fens.row(y, 3, 32, -1, 0, -1, -1);
            x.image();
            long first = 0;
            for (int i = 0; i < 200; i++) {
                x.undo();
                long answer = one(x, call, new int[] {1, 1, 1, 1, 1});
                first = i == 0 ? answer : first;
            }
            // All answers but those on what no image keeps stay what they are.
            boolean kept = call != 30 && call != 32 && call != 33 && call != 42 && call != 43 && call != 46;
            if (kept) {
                x.undo();
                due.is("the last of many, " + call, one(y, call, new int[] {1, 1, 1, 1, 1}), first);
                due.is("the last of many, " + call, first, one(x, call, new int[] {1, 1, 1, 1, 1}));
            }
        }
        PondLenses x = new PondLenses();
        x.thing(2, 0);
        for (int i = 1; i < 511; i++) {
            x.go(60);
        }
        due.is("8 the 512th call", 511 * 60, x.go(60));
    }

    /** Far behind the 512th call, the only way to where minutes end. */
    private static void lateMinutes() {
        PondLenses x = new PondLenses();
        x.thing(2, 0);
        for (int i = 0; i < 1666; i++) {
            x.go(60);
        }
        due.is("8 late", 99960, x.now(0));
        due.is("8 too late", Fens.STATE, x.go(40));
        due.is("30 beyond ahead of state", Fens.BEYOND, x.falls(21));
        due.is("8 beyond ahead of state", Fens.BEYOND, x.go(61));
        x.image();
        due.is("8 the last", 99999, x.go(39));
        x.undo();
        x.go(20);
        due.is("30 too late", Fens.STATE, x.falls(20));
        due.is("30 the last", 19, x.falls(19));
        due.is("30 the last", 99999, x.now(0));
        due.is("8 no more", Fens.STATE, x.go(1));
        int z = x.count(6);
        due.is("30 no more", Fens.STATE, x.falls(1));
        due.is("30 no draw", z, x.count(6));
        due.is("8 stays", 99999, x.now(0));
    }
}
