/** The bounds of HAS, FOUND, GOOD, RATHER, REST, APART, AN IMAGE and counts; promises 16 to 24. */
public final class GainBoundsTest {
    private static final int NONE = SkyWatchers.NONE, BAD = SkyWatchers.BAD, STATE = SkyWatchers.STATE;
    private static final long NO = SkyWatchers.NO;
    private static final int LEAST = Integer.MIN_VALUE, GREATEST = Integer.MAX_VALUE;
    private static final int[] NO_PARTS = {LEAST, -256, -2, -1, 3, 4, 256, 65536, GREATEST};
    private static final Due due = new Due("GainBoundsTest");

    public static void main(String[] args) {
        partsAre0And1();
        foundHasAPart2();
        hasWithoutDead();
        hasInLowestTerms();
        hasTheMostAndTheLeast();
        foundWhereNoneComes();
        foundInLowestTerms();
        foundByTheFirstWhoComes();
        goodOfNoneOneAndTen();
        ratherOverItsOwnAndThoseBeside();
        ratherEndsAtTheRim();
        ratherByCostOverEachSquare();
        ratherOnlyForMore();
        ratherTheLeastOfLikeOnes();
        ratherOfNone();
        restTakes0To3();
        restByTheLeastWatcher();
        restInARing();
        apartOfNoneOneAndTen();
        backNeedsAnImage();
        imageOfNoneAndTen();
        imageKeepsFourThings();
        imageIsKeptInPlaceOfThatAhead();
        watchersThatCameSinceStay();
        countTells0To6();
        due.end();
    }

    private static void has(SkyWatchers x, int watcher, long above, long below) {
        due.is("has(" + watcher + ", 0)", x.has(watcher, 0), above);
        due.is("has(" + watcher + ", 1)", x.has(watcher, 1), below);
    }

    private static void found(SkyWatchers x, long above, long below, long missed) {
        due.is("found(0)", x.found(0), above);
        due.is("found(1)", x.found(1), below);
        due.is("found(2)", x.found(2), missed);
    }

    private static void good(SkyWatchers x, long above, long below) {
        due.is("good(0)", x.good(0), above);
        due.is("good(1)", x.good(1), below);
    }

    // ---- HAS, FOUND, GOOD: promises 16 to 18

    private static void partsAre0And1() {
        due.is("NO", NO, -4611686018427387904L);
        for (int part : NO_PARTS) {
            Still.refused(due, "has(0, " + part + ")", x -> x.has(0, part), NO);
            Still.refused(due, "has(4, " + part + ")", x -> x.has(4, part), NO);
            Still.refused(due, "good(" + part + ")", x -> x.good(part), NO);
            Still.refused(due, "found(" + part + ")", x -> x.found(part), NO);
        }
        Still.refused(due, "has(0, 2)", x -> x.has(0, 2), NO);
        Still.refused(due, "good(2)", x -> x.good(2), NO);
        for (int watcher : new int[] {LEAST, -1, 4, 10, GREATEST}) {
            Still.refused(due, "has(" + watcher + ", 0)", x -> x.has(watcher, 0), NO);
            Still.refused(due, "has(" + watcher + ", 1)", x -> x.has(watcher, 1), NO);
        }
        SkyWatchers none = new SkyWatchers();
        due.is("has(0, 0) of none", none.has(0, 0), NO);
        due.is("has(0, 1) of none", none.has(0, 1), NO);
        due.is("good(2) of none", none.good(2), NO);
        due.is("found(3) of none", none.found(3), NO);
    }

    private static void foundHasAPart2() {
        SkyWatchers x = new SkyWatchers();
        due.is("found(2) of none", x.found(2), 0);
        x.dead(0, 1);
        due.is("found(2)", x.found(2), 1);
        for (int i = 0; i < 5; i++) {
            x.dead(255, 99);
        }
        due.is("found(2) of six", x.found(2), 1 + 5 * 99);
    }

    /** Without DEAD 0 less cost, by 1. */
    private static void hasWithoutDead() {
        SkyWatchers x = Due.with(0, 136, 1, 5, 0, 99);
        has(x, 0, -1, 1);
        has(x, 1, -1, 1);
        good(x, -2, 1);
        String[] costs = {"0", "1", "2", "999", "1000", "-5"};
        int[] wants = {0, -1, -2, -999, -999, 0};
        for (int i = 0; i < 5; i++) {
            Due.rule(x, "see 1;trust 1;cost " + costs[i] + ";");
            has(x, 0, wants[i], 1);
            good(x, 2 * wants[i], 1);
        }
        // back() to no DEAD is without DEAD again
        SkyWatchers y = Due.with(0, 136, 1);
        y.image();
        y.dead(136, 7);
        has(y, 0, 19, 1);
        y.back();
        has(y, 0, -1, 1);
        found(y, 0, 1, 0);
        good(y, -1, 1);
    }

    private static void hasInLowestTerms() {
        // SHARE 20 of WEIGHT w by w and 100 - w, less 1
        int[][] terms = {{1, -4, 5}, {2, -3, 5}, {3, -2, 5}, {4, -1, 5}, {5, 0, 1}, {10, 1, 1}, {25, 4, 1},
            {33, 28, 5}, {50, 9, 1}, {66, 61, 5}, {98, 93, 5}, {99, 94, 5}};
        for (int[] t : terms) {
            SkyWatchers x = Due.with(0, 0, 1);
            x.dead(0, t[0]);
            x.dead(255, 100 - t[0]);
            has(x, 0, t[1], t[2]);
            good(x, t[1], t[2]);
        }
        // all WEIGHTS are 1: nothing more than 1 stands below
        SkyWatchers one = Due.with(0, 0, 1);
        one.dead(0, 1);
        has(one, 0, 19, 1);
        good(one, 19, 1);
        found(one, 0, 1, 0);
        one.meat(1);
        has(one, 0, 0, 1);
        // nothing can be cut: 1 by 97, less 0
        SkyWatchers y = Due.with(0, 0, 1);
        Due.rule(y, "see 1;trust 1;cost 0;");
        y.meat(1);
        y.dead(0, 1);
        y.dead(255, 96);
        has(y, 0, 1, 97);
        y.meat(0);
        has(y, 0, 0, 1);
        // a numerator below 0 keeps its sign, the denominator has none
        Due.rule(y, "see 1;trust 1;cost 3;");
        y.meat(97);
        has(y, 0, 60 - 3 * 97, 97);
        has(y, 0, -231, 97);
    }

    private static void hasTheMostAndTheLeast() {
        SkyWatchers x = Due.with(0, 136, 1, 2, 0, 1);
        for (int i = 0; i < 6; i++) {
            x.dead(136, 99);
        }
        x.meat(99);
        Due.rule(x, "see 1;trust 1;cost 0;");
        has(x, 0, 60, 1);
        has(x, 1, 0, 1);
        Due.rule(x, "see 0;trust 1;cost 9999;");
        has(x, 0, -999, 1);
        good(x, -1998, 1);
        // the least that is more than nothing: 1 of WEIGHT 1 by 496
        SkyWatchers y = Due.with(0, 0, 1);
        y.dead(0, 1);
        for (int i = 0; i < 5; i++) {
            y.dead(255, 99);
        }
        y.meat(1);
        Due.rule(y, "see 1;trust 1;cost 0;");
        has(y, 0, 1, 496);
    }

    private static void foundWhereNoneComes() {
        SkyWatchers x = new SkyWatchers();
        found(x, 0, 1, 0);
        x.dead(136, 99);
        found(x, 0, 1, 99);
        x.watcher(2, 136, 1);
        found(x, 0, 1, 99);
        x.watcher(0, 140, 1);
        found(x, 0, 1, 99);
        // one that sees it would come in 3, but the one that follows it is there in 1
        x.hang(1, 139);
        found(x, 1, 1, 0);
        x.hang(1, 136);
        found(x, 0, 1, 0);
    }

    private static void foundInLowestTerms() {
        // 1 times w in MINUTE 1, 2 times (100 - w) in MINUTE 2
        int[][] terms = {{1, 199, 100}, {10, 19, 10}, {50, 3, 2}, {20, 9, 5}, {98, 51, 50}, {99, 101, 100}};
        for (int[] t : terms) {
            SkyWatchers x = Due.with(0, 0, 1);
            x.dead(1, t[0]);
            x.dead(2, 100 - t[0]);
            x.dead(255, 33);
            found(x, t[1], t[2], 33);
        }
        // WEIGHTS of those that are found are 1
        SkyWatchers one = Due.with(0, 0, 1);
        one.dead(1, 1);
        found(one, 1, 1, 0);
        one.dead(255, 5);
        found(one, 1, 1, 5);
        one.dead(3, 1);
        found(one, 2, 1, 5);
        one.dead(2, 2);
        found(one, 2, 1, 5);
        one.dead(2, 1);
        found(one, 2, 1, 5);
        one.dead(3, 1);
        found(one, 13, 6, 5);
        // the latest MINUTE in which a first one can come: seen in 30, 14 far
        SkyWatchers y = Due.with(3, 0, 91);
        Due.rule(y, "see minute=30;trust 1;cost 1;");
        for (int i = 0; i < 6; i++) {
            y.dead(14, 99);
        }
        found(y, 44, 1, 0);
        Due.rule(y, "see 30<minute;trust 1;cost 1;");
        found(y, 0, 1, 594);
    }

    private static void foundByTheFirstWhoComes() {
        // the first that comes isn't the least, nor the first that dropped
        SkyWatchers x = Due.with(0, 3, 1, 0, 2, 2, 0, 1, 1);
        x.dead(0, 5);
        found(x, 1, 1, 0);
        x.hang(2, 255);
        found(x, 1, 1, 0);
        x.hang(1, 3);
        found(x, 2, 1, 0);
        x.hang(1, 255);
        found(x, 3, 1, 0);
        SkyWatchers y = Due.with(0, 3, 1, 2, 0, 1);
        y.dead(0, 5);
        // 1 drops in 1 and is there, 0 comes in 3
        found(y, 1, 1, 0);
        y.meat(0);
        found(y, 1, 1, 0);
    }

    private static void goodOfNoneOneAndTen() {
        SkyWatchers x = new SkyWatchers();
        good(x, 0, 1);
        x.dead(136, 9);
        x.dead(0, 1);
        good(x, 0, 1);
        int[] above = {17, 16, 15, 14, 13, 12, 11, 10, 9, 8};
        for (int i = 0; i < 10; i++) {
            // all 20 are had by whoever is there, times 9 by 10, less 1 of each
            x.watcher(0, 136, 1);
            good(x, above[i], 1);
        }
        Due.rule(x, "see 1;trust 1;cost 9999;");
        good(x, 18 - 9990, 1);
        x.meat(1);
        good(x, 9 - 99900, 10);
    }

    // ---- RATHER: promise 19

    /** One sees only what lies under it: it would rather hang where that is, if it is beside. */
    private static void ratherEndsAtTheRim() {
        int[][] all = {{0, 1, 16}, {15, 14, 31}, {240, 224, 241}, {255, 239, 254}, {7, 6, 8, 23},
            {248, 232, 247, 249}, {112, 96, 113, 128}, {127, 111, 126, 143}, {136, 120, 135, 137, 152},
            {16, 0, 17, 32}, {31, 15, 30, 47}, {239, 223, 238, 255}};
        for (int[] one : all) {
            SkyWatchers x = Due.with(0, one[0], 1);
            Due.rule(x, "see far=0;trust 0;cost 1;");
            x.image();
            for (int square = 0; square < 256; square++) {
                boolean beside = false;
                for (int k = 1; k < one.length; k++) {
                    beside |= one[k] == square;
                }
                if (beside || square % 5 == one[0] % 5 || Math.abs(square - one[0]) < 18) {
                    x.dead(square, 1);
                    due.is("rather over " + one[0] + ", DEAD at " + square, x.rather(0), beside ? square : NONE);
                    x.back();
                }
            }
        }
    }

    private static int hung(int square) {
        return Math.max(Math.abs(square % 16 - 8), Math.abs(square / 16 - 8));
    }

    /** Where cost alone counts: over each square, there is none behind a rim that would cost less. */
    private static void ratherByCostOverEachSquare() {
        for (int way = -1; way <= 1; way += 2) {
            SkyWatchers x = new SkyWatchers();
            for (int square = 0; square < 256; square++) {
                if (square % 128 == 0) {
                    x = Due.with(0, 0, 1);
                    Due.rule(x, way < 0 ? "see 1;trust 1;cost 20-hung;" : "see 1;trust 1;cost hung;");
                }
                int want = NONE;
                int least = way * hung(square);
                for (int other = 0; other < 256; other++) {
                    int apart = Math.abs(square % 16 - other % 16) + Math.abs(square / 16 - other / 16);
                    if (apart == 1 && way * hung(other) < least) {
                        least = way * hung(other);
                        want = other;
                    }
                }
                x.hang(0, square);
                due.is("rather by cost over " + square, x.rather(0), want);
            }
        }
    }

    private static void ratherOverItsOwnAndThoseBeside() {
        SkyWatchers x = Due.with(0, 136, 1);
        Due.rule(x, "see far=0;trust 0;cost 1;");
        x.image();
        // more at its own, one beside, none of those that lie crosswise or two away
        int[] others = {119, 121, 151, 153, 134, 138, 104, 168};
        for (int square : others) {
            x.dead(square, 99);
            due.is("rather: DEAD at " + square, x.rather(0), NONE);
            x.back();
        }
        for (int square : new int[] {120, 135, 137, 152}) {
            x.dead(136, 50);
            x.dead(square, 49);
            due.is("rather: less at " + square, x.rather(0), NONE);
            x.dead(square, 1);
            due.is("rather: as much at " + square, x.rather(0), NONE);
            x.dead(square, 1);
            due.is("rather: more at " + square, x.rather(0), square);
            due.is("told(0, 1): it hangs where it did", x.told(0, 1), 136);
            x.back();
        }
    }

    private static void ratherOnlyForMore() {
        // without DEAD cost alone counts: all alike, more beside, less beside
        SkyWatchers x = Due.with(0, 136, 1);
        due.is("rather: all alike", x.rather(0), NONE);
        Due.rule(x, "see 1;trust 1;cost 5-hung;");
        due.is("rather: cost less beside", x.rather(0), 120);
        Due.rule(x, "see 1;trust 1;cost hung;");
        due.is("rather: cost more beside", x.rather(0), NONE);
        // costs beyond the bounds are alike
        Due.rule(x, "see 1;trust 1;cost 2000-hung;");
        due.is("rather: all 999", x.rather(0), NONE);
        Due.rule(x, "see 1;trust 1;cost 0-hung;");
        due.is("rather: all 0", x.rather(0), NONE);
        Due.rule(x, "see 1;trust 1;cost 1000-hung;");
        due.is("rather: 999 and 999", x.rather(0), NONE);
        x.hang(0, 137);
        due.is("rather: 999 and 998", x.rather(0), 121 + 17);
    }

    private static void ratherTheLeastOfLikeOnes() {
        int[] beside = {120, 135, 137, 152};
        SkyWatchers x = Due.with(0, 136, 1);
        Due.rule(x, "see far=0;trust 0;cost 1;");
        x.image();
        for (int set = 1; set < 16; set++) {
            int least = NONE;
            for (int k = 3; k >= 0; k--) {
                if ((set >> k & 1) == 1) {
                    x.dead(beside[k], 7);
                    least = beside[k];
                }
            }
            due.is("rather: like ones " + set, x.rather(0), least);
            // a later one that is more is it, for all that
            for (int k = 0; k < 4; k++) {
                if (x.count(1) < 5) {
                    x.dead(beside[k], 8);
                    due.is("rather: more at " + beside[k], x.rather(0), beside[k]);
                    x.dead(beside[3 - k], 99);
                    due.is("rather: more yet", x.rather(0), beside[3 - k]);
                    break;
                }
            }
            x.back();
        }
    }

    private static void ratherOfNone() {
        due.is("rather(0) of none", new SkyWatchers().rather(0), BAD);
        for (int watcher : new int[] {LEAST, -256, -1, 4, 10, 256, GREATEST}) {
            Still.refused(due, "rather(" + watcher + ")", x -> x.rather(watcher), BAD);
        }
    }

    // ---- REST: promise 20

    private static void restTakes0To3() {
        for (int n : new int[] {LEAST, -256, -3, -1, 4, 5, 256, 65536, GREATEST}) {
            Still.refused(due, "rest(" + n + ")", x -> x.rest(n), BAD);
            due.is("rest(" + n + ") of none", new SkyWatchers().rest(n), BAD);
        }
        for (int n = 0; n <= 3; n++) {
            due.is("rest(" + n + ") of none", new SkyWatchers().rest(n), 0);
            for (int away = 0; away <= 5; away++) {
                SkyWatchers x = Due.with(0, 136 + away, 1);
                Due.rule(x, "see 1;trust 1;cost hung;");
                due.is("rest(" + n + "), " + away + " away", x.rest(n), Math.min(n, away));
                due.is("told(0, 1)", x.told(0, 1), 136 + away - Math.min(n, away));
            }
        }
        Still.refused(due, "rest(0), which moves none", x -> x.rest(0), 0);
    }

    private static void restByTheLeastWatcher() {
        SkyWatchers x = Due.with(0, 136, 1, 0, 137, 1, 0, 134, 1, 0, 140, 1);
        Due.rule(x, "see 1;trust 1;cost hung;");
        // the first rests already; then 1 alone till it rests, then 2
        due.is("rest(1)", x.rest(1), 1);
        due.is("told(1, 1)", x.told(1, 1), 136);
        due.is("told(2, 1)", x.told(2, 1), 134);
        due.is("rest(3)", x.rest(3), 3);
        due.is("told(2, 1)", x.told(2, 1), 136);
        due.is("told(3, 1)", x.told(3, 1), 139);
        due.is("rest(3)", x.rest(3), 3);
        due.is("rest(3)", x.rest(3), 0);
        // the last of ten
        SkyWatchers y = new SkyWatchers();
        for (int i = 0; i < 10; i++) {
            y.watcher(0, i == 9 ? 138 : 136, 1);
        }
        Due.rule(y, "see 1;trust 1;cost hung;");
        due.is("rest(3)", y.rest(3), 2);
        due.is("told(9, 1)", y.told(9, 1), 136);
    }

    /** Places that each would rather have may go round for ever: turns end at n. */
    private static void restInARing() {
        SkyWatchers x = Due.with(0, 136, 1, 3, 136, 12);
        Due.rule(x, "see far<2;trust 1;cost 0;");
        x.meat(7);
        x.dead(152, 2);
        x.dead(136, 3);
        // where both hang, turn by turn: who is there first has 4 of 7 there, and of two the least
        int[][] ring = {{136, 136}, {136, 152}, {152, 152}, {152, 136}};
        int at = 0;
        for (int n : new int[] {1, 1, 1, 1, 2, 3, 0, 3, 3, 3, 2}) {
            due.is("rest(" + n + ")", x.rest(n), n);
            at = (at + n) % 4;
            due.is("told(0, 1)", x.told(0, 1), ring[at][0]);
            due.is("told(1, 1)", x.told(1, 1), ring[at][1]);
        }
        due.is("rather(0)", x.rather(0), NONE);
        due.is("rather(1)", x.rather(1), 152);
        x.rest(1);
        due.is("rather(0)", x.rather(0), 152);
    }

    // ---- APART: promise 21

    private static void apartOfNoneOneAndTen() {
        SkyWatchers x = new SkyWatchers();
        due.is("apart() of none", x.apart(), 0);
        x.watcher(0, 0, 1);
        due.is("apart() of one", x.apart(), 0);
        x.watcher(0, 255, 1);
        due.is("apart() of two", x.apart(), 30);
        x.hang(1, 0);
        due.is("apart() over one square", x.apart(), 0);
        for (int i = 2; i < 10; i++) {
            x.watcher(i % 6, 0, 1);
        }
        due.is("apart() of ten over one square", x.apart(), 0);
        x.hang(9, 255);
        due.is("apart(): one of ten is 15 away", x.apart(), 15);
        x.hang(9, 0);
        x.hang(0, 240);
        due.is("apart(): the first of ten is 15 away", x.apart(), 15);
        int[] squares = {0, 5, 10, 15, 80, 95, 160, 175, 240, 255};
        for (int i = 0; i < 10; i++) {
            x.hang(i, squares[i]);
        }
        due.is("apart(): ten, each 5 away", x.apart(), 50);
        x.hang(0, 5);
        due.is("apart(): two over one square", x.apart(), 8 * 5);
    }

    // ---- AN IMAGE: promises 22 and 23

    private static void backNeedsAnImage() {
        Still.refused(due, x -> { }, "back() of a new one", x -> x.back(), STATE);
        Still.refused(due, x -> {
            x.watcher(0, 136, 1);
            x.meat(3);
            x.dead(4, 5);
            x.hang(0, 7);
        }, "back() without an image", x -> x.back(), STATE);
    }

    private static void imageOfNoneAndTen() {
        SkyWatchers x = new SkyWatchers();
        due.is("image() of none", x.image(), 0);
        due.is("back() to none", x.back(), 0);
        x.meat(0);
        x.dead(0, 1);
        due.is("back()", x.back(), 0);
        due.is("count(6)", x.count(6), 20);
        due.is("count(1)", x.count(1), 0);
        for (int i = 0; i < 10; i++) {
            x.watcher(0, 20 * i, 1);
        }
        due.is("image() of ten", x.image(), 10);
        for (int i = 0; i < 10; i++) {
            x.hang(i, 255);
        }
        due.is("back() to ten", x.back(), 10);
        for (int i = 0; i < 10; i++) {
            due.is("told(" + i + ", 1)", x.told(i, 1), 20 * i);
        }
        // six DEAD back to six and to none
        SkyWatchers y = new SkyWatchers();
        y.image();
        for (int i = 0; i < 6; i++) {
            y.dead(i, 9);
        }
        due.is("dead: a seventh", y.dead(0, 9), SkyWatchers.FULL);
        y.back();
        due.is("count(1)", y.count(1), 0);
        for (int i = 0; i < 6; i++) {
            due.is("dead: room for six again", y.dead(i, 8), i);
        }
        due.is("dead: a seventh", y.dead(0, 9), SkyWatchers.FULL);
        due.is("image()", y.image(), 0);
        due.is("back()", y.back(), 0);
        due.is("count(1)", y.count(1), 6);
        due.is("found(2)", y.found(2), 48);
    }

    /** Where all HANG, MEAT, THE RULE, how many DEAD; nothing else. */
    private static void imageKeepsFourThings() {
        SkyWatchers x = Due.with(0, 136, 1, 3, 20, 15);
        x.dead(136, 5);
        x.dead(137, 6);
        Due.text(x, "see 1;trust 1;cost 3;");
        Due.rule(x, "see 1;trust 1;cost 4;");
        x.hide(3, 1);
        x.hide(4, 1);
        Still.lay(x, 0, 0, 1, 2, 3);
        Due.feed(x, "see");
        due.is("image()", x.image(), 2);
        due.is("image(): it changes nothing", x.count(4), 3);
        x.hang(0, 0);
        x.hang(1, 1);
        x.meat(0);
        x.force(1);
        x.dead(138, 7);
        x.hide(3, 0);
        x.hide(5, 1);
        x.hide(6, 1);
        Due.text(x, "?");
        Due.text(x, "see 1;trust 1;cost 5;");
        Due.feed(x, "trust");
        Still.lay(x, 0, 1, 5, 255, 11);
        due.is("back()", x.back(), 2);
        int[] counts = {2, 2, 3, 4, 5, 2, 20};
        for (int what = 0; what < 7; what++) {
            due.is("count(" + what + ")", x.count(what), counts[what]);
        }
        due.is("told(0, 1)", x.told(0, 1), 136);
        due.is("told(1, 1)", x.told(1, 1), 20);
        due.is("told(0, 8)", x.told(0, 8), 4);
        due.is("found(2)", x.found(2) + x.found(1), 11);
        due.is("hide(3, 0): HIDDEN isn't kept", x.hide(3, 0), 0);
        due.is("hide(5, 0)", x.hide(5, 0), 1);
        due.is("watchers: SHEETS aren't kept", x.watchers(0, 1, 0, 1), 1);
        due.is("told(2, 1)", x.told(2, 1), 255);
        // DEAD that came since are gone, those ahead are as they were
        due.is("dead", x.dead(0, 1), 2);
    }

    private static void imageIsKeptInPlaceOfThatAhead() {
        SkyWatchers x = Due.with(0, 10, 1);
        x.image();
        for (int k = 1; k <= 3; k++) {
            x.hang(0, 100 + k);
            x.meat(k);
            due.is("image() " + k, x.image(), 1);
            x.hang(0, 0);
            x.meat(99);
            // back() as often as one likes
            for (int again = 0; again < 3; again++) {
                due.is("back()", x.back(), 1);
                due.is("told(0, 1)", x.told(0, 1), 100 + k);
                due.is("count(6)", x.count(6), k);
                x.hang(0, 50 + again);
                x.meat(50 + again);
            }
        }
        // what one does behind image() doesn't change it
        x.back();
        x.hang(0, 200);
        due.is("back()", x.back(), 1);
        due.is("told(0, 1)", x.told(0, 1), 103);
    }

    private static void watchersThatCameSinceStay() {
        SkyWatchers x = new SkyWatchers();
        x.image();
        for (int i = 0; i < 10; i++) {
            x.watcher(i % 6, 3 * i, 11 * (i % 9 + 1));
        }
        x.back();
        due.is("count(0)", x.count(0), 10);
        for (int i = 0; i < 10; i++) {
            due.is("told(" + i + ", 0)", x.told(i, 0), i % 6);
            due.is("told(" + i + ", 1)", x.told(i, 1), 3 * i);
        }
        SkyWatchers y = Due.with(0, 1, 1, 0, 2, 1);
        due.is("image()", y.image(), 2);
        y.watcher(0, 3, 1);
        y.hang(0, 101);
        y.hang(1, 102);
        y.hang(2, 103);
        y.back();
        due.is("told(0, 1)", y.told(0, 1), 1);
        due.is("told(1, 1)", y.told(1, 1), 2);
        due.is("told(2, 1): where it hangs now", y.told(2, 1), 103);
    }

    // ---- promise 24

    private static void countTells0To6() {
        for (int what : new int[] {LEAST, -256, -2, -1, 7, 8, 256, 65536, GREATEST}) {
            Still.refused(due, "count(" + what + ")", x -> x.count(what), BAD);
        }
        SkyWatchers x = new SkyWatchers();
        for (int i = 0; i < 10; i++) {
            x.watcher(0, 136, 1);
        }
        for (int i = 0; i < 6; i++) {
            x.dead(136, 9);
        }
        for (int i = 0; i < 256; i++) {
            x.hide(i, 1);
        }
        for (int i = 0; i < 5; i++) {
            Due.rule(x, "see 1;trust 1;cost 1;");
        }
        for (int i = 0; i < 20; i++) {
            x.feed(8, 0);
        }
        x.meat(99);
        int[] most = {10, 6, 256, 6, 160, 5, 99};
        for (int what = 0; what < 7; what++) {
            due.is("count(" + what + ") at most", x.count(what), most[what]);
        }
    }
}
