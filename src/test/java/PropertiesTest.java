/** Fens by draws, where one call's answer is found again by plainer calls. */
public final class PropertiesTest {
    private static final Due due = new Due();
    private static final int FENS = 120;

    public static void main(String[] args) {
        for (int i = 0; i < FENS; i++) {
            chainsAreStepsInARow(new Fens(i).fen());
            roundsAreWhatStepsTell(new Fens(i).fen());
            PondLenses x = new Fens(i).fen();
            whatWillBeIsWhatComes(i, i % x.count(1), i / 8 % x.count(1), i % 16);
            usualPondIsCounted(new Fens(i), i);
            kindForIsTried(i, i % x.count(1));
            lensesAreTried(new Fens(i), i);
            coursesAreFollowed(new Fens(i), i);
            eyesAreTheFewest(new Fens(i).fen());
            dredgingFindsAlikes(new Fens(i).fen(), i);
        }
        lastMinutes();
        due.end();
    }

    /** Fens that were searched for: in these the last minute that counts makes the difference. */
    private static void lastMinutes() {
        due.is("19 in minute 100", 100, new Fens(576402).fen().comes(3, 12));
        due.is("19 in minute 100", 100, new Fens(1463666).fen().comes(0, 10));
        due.is("19 in minute 101", Fens.NONE, new Fens(1463666).fen().comes(0, 2));
        due.is("21 in minute 100", 100, new Fens(10083).fen().meet(7, 5));
        due.is("21 in minute 101", Fens.NONE, new Fens(13402).fen().meet(7, 1));
        for (int pond = 0; pond < 16; pond++) {
            whatWillBeIsWhatComes(576402, 3, 0, pond);
            whatWillBeIsWhatComes(1463666, 0, 0, pond);
        }
        whatWillBeIsWhatComes(10083, 7, 5, 0);
        whatWillBeIsWhatComes(13402, 7, 1, 0);
        // Of 59 minutes, and of 61, another kind would be told.
        kindForIsTried(1385851, 4);
        kindForIsTried(320910, 3);
    }

    private static void chainsAreStepsInARow(PondLenses x) {
        int[][] is = new int[4][16];
        for (int pond = 0; pond < 16; pond++) {
            for (int what = 0; what < 4; what++) {
                is[what][pond] = x.pond(pond, what);
            }
        }
        for (int pond = 0; pond < 16; pond += 3) {
            int at = pond;
            int size = 81;
            int turned = 0;
            int flipped = 0;
            int upright = Fens.NONE;
            for (int i = 1; i <= 16; i++) {
                size = Math.min(99999, size * is[1][at] / 3);
                turned = (turned + (flipped == 1 ? 4 - is[2][at] : is[2][at])) % 4;
                flipped = (flipped + is[3][at]) % 2;
                at = is[0][at];
                if (i % 5 == 1) {
                    due.is("10 end", at, x.chain(pond, i, 0));
                    due.is("10 size", size, x.chain(pond, i, 1));
                    due.is("10 turned", turned, x.chain(pond, i, 2));
                    due.is("10 flipped", flipped, x.chain(pond, i, 3));
                }
                if (upright == Fens.NONE && turned == 0 && flipped == 0) {
                    upright = i;
                }
            }
            due.is("12 upright", upright, x.upright(pond));
        }
    }

    private static void roundsAreWhatStepsTell(PondLenses x) {
        int[] shows = new int[16];
        for (int pond = 0; pond < 16; pond++) {
            shows[pond] = x.pond(pond, 0);
        }
        int roundsAsParts = 0;
        for (int pond = 0; pond < 16; pond++) {
            int[] visited = new int[16];
            int at = pond;
            int steps = 0;
            while (visited[at] == 0) {
                steps++;
                visited[at] = steps;
                at = shows[at];
            }
            int round = steps + 1 - visited[at];
            due.is("14 round", round, x.round(pond));
            due.is("16 before", visited[at] - 1, x.before(pond));
            for (int to = 0; to < 16; to++) {
                if (pond == 0 || pond == 7) {
                    due.is("17 shownBy", visited[to] > 0 ? 1 : 0, x.shownBy(to) >> pond & 1);
                }
            }
            if (visited[at] == 1) {
                // 720720 can be parted by each number from 1 to 16.
                roundsAsParts += 720720 / round;
            }
        }
        due.is("15 rounds", roundsAsParts / 720720, x.rounds());
    }

    private static void whatWillBeIsWhatComes(int fen, int thing, int other, int pond) {
        Fens fens = new Fens(fen);
        PondLenses x = fens.fen();
        int n = fens.draw(101);
        int comes = x.comes(thing, pond);
        int seen = x.seen(thing, pond);
        int meet = x.meet(thing, other);
        int ahead = x.ahead(thing, n);
        int shown = x.pond(pond, 0);
        int isThere = Fens.NONE;
        int isSeen = Fens.NONE;
        int isMet = thing == other ? Fens.BEYOND : Fens.NONE;
        int was = -1;
        for (int i = 0; i <= 100; i++) {
            int at = x.of(thing, 1);
            isThere = isThere == Fens.NONE && at == pond ? i : isThere;
            isSeen = isSeen == Fens.NONE && at == shown ? i : isSeen;
            isMet = isMet == Fens.NONE && at == x.of(other, 1) ? i : isMet;
            was = i == n ? at : was;
            x.go(1);
        }
        due.is("18 ahead", was, ahead);
        due.is("19 comes", isThere, comes);
        due.is("20 seen", isSeen, seen);
        due.is("21 meet", isMet, meet);
    }

    private static void usualPondIsCounted(Fens fens, int turn) {
        PondLenses x = fens.fen();
        int thing = turn % x.count(1);
        int n = 1 + fens.draw(20);
        int cast = x.cast(thing, n);
        int watch = x.watch(n);
        int[] is = new int[16];
        int[] sights = new int[16];
        for (int i = 0; i < n; i++) {
            x.go(1);
            is[x.of(thing, 1)]++;
            for (int pond = 0; pond < 16; pond++) {
                sights[pond] += Integer.bitCount(x.pond(pond, 7));
            }
        }
        due.is("22 cast", leastOfMost(is), cast);
        due.is("29 watch", leastOfMost(sights), watch);
    }

    private static int leastOfMost(int[] counts) {
        int best = counts.length - 1;
        for (int i = counts.length - 1; i >= 0; i--) {
            best = counts[i] >= counts[best] ? i : best;
        }
        return best;
    }

    private static void kindForIsTried(int fen, int thing) {
        PondLenses asIs = new Fens(fen).fen();
        int[] reach = new int[7];
        for (int kind = 0; kind <= 6; kind++) {
            PondLenses x = new Fens(fen).fen();
            x.change(thing, 0, kind);
            int set = 1 << x.of(thing, 1);
            for (int i = 0; i < 60; i++) {
                x.go(1);
                set |= 1 << x.of(thing, 1);
            }
            reach[kind] = Integer.bitCount(set);
        }
        due.is("23 kindFor", leastOfMost(reach), asIs.kindFor(thing));
    }

    private static void lensesAreTried(Fens fens, int turn) {
        PondLenses x = fens.fen();
        int pond = turn % 16;
        int n = fens.draw(5);
        int[] told = new int[n];
        x.image();
        x.dig(pond, 0, (pond + 1 + fens.draw(15)) % 16);
        for (int i = 0; i < n; i++) {
            told[i] = fens.draw(3) == 0 ? -1 : x.pond(pond, 7);
            x.go(1);
        }
        x.undo();
        Fens.tell(x, 0, told);
        int fits = x.fits(0, pond);
        int lens = x.lens(0, pond);
        int count = 0;
        int least = Fens.NONE;
        for (int shown = 15; shown >= 0; shown--) {
            x.undo();
            if (shown != pond && x.dig(pond, 0, shown) >= 0 && isAsTold(x, pond, told)) {
                count++;
                least = shown;
            }
        }
        due.is("24 fits", count, fits);
        due.is("25 lens", least, lens);
    }

    private static boolean isAsTold(PondLenses x, int pond, int[] told) {
        for (int i = 0; i < told.length; i++) {
            if (told[i] != -1 && told[i] != x.pond(pond, 7)) {
                return false;
            }
            x.go(1);
        }
        return true;
    }

    private static void coursesAreFollowed(Fens fens, int turn) {
        PondLenses x = fens.fen();
        int thing = turn % x.count(1);
        int n = fens.draw(6);
        int[] told = new int[n];
        int[][] at = new int[n][8];
        x.image();
        for (int i = 0; i < n; i++) {
            told[i] = fens.draw(3) == 0 ? -1 : x.of(thing, 1);
            for (int t = 0; t < x.count(1); t++) {
                at[i][t] = x.of(t, 1);
            }
            x.go(1);
        }
        x.undo();
        int set = 0;
        for (int t = 0; t < x.count(1); t++) {
            boolean all = true;
            for (int i = 0; i < n; i++) {
                all &= told[i] == -1 || told[i] == at[i][t];
            }
            set |= all ? 1 << t : 0;
        }
        Fens.tell(x, 0, told);
        due.is("26 which", set, x.which(0));
    }

    /** Tries all sets of ponds. */
    private static void eyesAreTheFewest(PondLenses x) {
        int things = x.count(1);
        int[] seenIn = new int[things];
        for (int thing = 0; thing < things; thing++) {
            seenIn[thing] = x.of(thing, 4);
        }
        int best = Fens.NONE;
        for (int set = 0; set < 65536; set++) {
            boolean all = true;
            for (int thing = 0; thing < things; thing++) {
                all &= (set & seenIn[thing]) != 0;
            }
            if (all && (best == Fens.NONE || Integer.bitCount(set) < Integer.bitCount(best))) {
                best = set;
            }
        }
        due.is("27 eyes", best, x.eyes());
    }

    private static void dredgingFindsAlikes(PondLenses x, int turn) {
        int thing = turn % x.count(1);
        int told = x.of(thing, 4);
        int[] showers = new int[16];
        for (int from = 0; from < 16; from++) {
            showers[x.pond(from, 0)] |= 1 << from;
        }
        int set = 0;
        int depths = 0;
        for (int pond = 0; pond < 16; pond++) {
            if (showers[pond] == told) {
                set |= 1 << pond;
                depths += x.pond(pond, 5);
            }
        }
        due.is("28 dredge", set, x.dredge(thing, 0));
        due.is("28 depths", depths, x.dredge(thing, 1));
    }
}
