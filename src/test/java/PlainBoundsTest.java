/** The bounds of the plain and of watchers: what "Terms" says of them, and promises 1 to 7. */
public final class PlainBoundsTest {
    private static final int NONE = SkyWatchers.NONE, BAD = SkyWatchers.BAD, FULL = SkyWatchers.FULL;
    private static final int LEAST = Integer.MIN_VALUE, GREATEST = Integer.MAX_VALUE;
    private static final int[] NO_SQUARES = {LEAST, LEAST + 136, -65400, -256, -120, -1, 256, 257, 392,
        65536, 65672, GREATEST};
    private static final int[] ALL_BUT_BITS = {LEAST, LEAST + 1, -2, -1, 2, 3, 256, 257, 65537, GREATEST};
    private static final Due due = new Due("PlainBoundsTest");

    public static void main(String[] args) {
        squaresAre0To255();
        farIsTheGreaterDifference();
        noneIsHiddenAtFirst();
        hiddenOnesAreSeenFromWithin1();
        tenWatchersAtMost();
        watchersAreNumberedFrom0();
        kindsAre0To5();
        restIs10TimesNumberAndSpeed();
        aRefusalOfAWatcherIsBadAheadOfFull();
        looks();
        gazes();
        needs();
        slow();
        aNewObject();
        anObjectIsUsedFor512Calls();
        hideTakes0And1();
        hangTakesWatchersAndSquares();
        meatIs0To99();
        deadAreSixAtMost();
        weightsAre1To99();
        toldTellsNineOfEach();
        due.end();
    }

    private interface BySquare {
        long on(SkyWatchers x, int square);
    }

    // ---- SQUARES 0 .. 255 of a PLAIN

    private static void squaresAre0To255() {
        bySquare("hide", (x, s) -> x.hide(s, 1), 0, 0);
        bySquare("watcher", (x, s) -> x.watcher(0, s, 1), 1, 1);
        bySquare("hang", (x, s) -> x.hang(0, s), 120, 120);
        bySquare("dead", (x, s) -> x.dead(s, 1), 0, 0);
        bySquare("find", (x, s) -> x.find(s, 0, 2), NONE, NONE);
        bySquare("edge", (x, s) -> x.edge(s), 0, 0);
        bySquare("alone", (x, s) -> x.alone(s, 0), 0, 0);
        bySquare("isTrue", (x, s) -> {
            x.sheet(0, 0, 1);
            return x.isTrue(s, 0);
        }, 0, 0);
        for (int s : NO_SQUARES) {
            Still.refused(due, "hide " + s, x -> x.hide(s, 1), BAD);
            Still.refused(due, "hide not " + s, x -> x.hide(s, 0), BAD);
            Still.refused(due, "watcher over " + s, x -> x.watcher(0, s, 1), BAD);
            Still.refused(due, "hang over " + s, x -> x.hang(0, s), BAD);
            Still.refused(due, "dead at " + s, x -> x.dead(s, 1), BAD);
            Still.refused(due, "find at " + s, x -> x.find(s, 0, 0), BAD);
            Still.refused(due, "edge of " + s, x -> x.edge(s), BAD);
            Still.refused(due, "alone at " + s, x -> x.alone(s, 0), BAD);
            Still.refused(due, "isTrue at " + s, x -> x.isTrue(s, 0), BAD);
        }
    }

    /** A call on one with a WATCHER over 120 must take squares 0 and 255, and answer so. */
    private static void bySquare(String name, BySquare call, long first, long last) {
        due.is(name + " 0", call.on(Due.with(0, 120, 1), 0), first);
        due.is(name + " 255", call.on(Due.with(0, 120, 1), 255), last);
        due.is(name + " -1", call.on(Due.with(0, 120, 1), -1), BAD);
        due.is(name + " 256", call.on(Due.with(0, 120, 1), 256), BAD);
    }

    private static void farIsTheGreaterDifference() {
        int[][] fars = {{0, 0, 0}, {255, 255, 0}, {0, 1, 1}, {0, 16, 1}, {0, 17, 1}, {0, 15, 15},
            {15, 16, 15}, {0, 240, 15}, {0, 255, 15}, {15, 240, 15}, {255, 254, 1}, {255, 239, 1},
            {31, 32, 15}, {0, 35, 3}, {0, 50, 3}, {7, 8, 1}, {112, 128, 1}, {127, 128, 15}, {136, 0, 8},
            {136, 255, 7}, {136, 15, 8}, {136, 240, 8}};
        for (int[] f : fars) {
            due.is("FAR " + f[0] + " " + f[1], Due.with(0, f[0], 1, 0, f[1], 1).apart(), 2 * f[2]);
            due.is("FAR " + f[1] + " " + f[0], Due.with(0, f[1], 1, 0, f[0], 1).apart(), 2 * f[2]);
        }
    }

    // ---- HIDDEN

    private static void noneIsHiddenAtFirst() {
        SkyWatchers x = new SkyWatchers();
        due.is("count(2)", x.count(2), 0);
        for (int s = 0; s < 256; s++) {
            due.is("hide(" + s + ", 1) at first", x.hide(s, 1), 0);
        }
        due.is("count(2): all", x.count(2), 256);
        due.is("hide(255, 1)", x.hide(255, 1), 1);
        due.is("count(2): as many", x.count(2), 256);
        for (int s = 1; s < 240; s++) {
            due.is("hide(" + s + ", 0)", x.hide(s, 0), 1);
        }
        due.is("count(2): 0 and the last row are left", x.count(2), 17);
    }

    private static void hiddenOnesAreSeenFromWithin1() {
        // over square 136 itself, the eight beside it, and some 2 away
        int[] near = {136, 119, 120, 121, 135, 137, 151, 152, 153};
        int[] farther = {134, 138, 104, 168, 102, 106, 166, 170, 118, 154};
        for (int kind : new int[] {0, 1, 3}) {
            for (int s : near) {
                SkyWatchers x = Due.with(kind, s, 91);
                x.hide(136, 1);
                due.is("edge: kind " + kind + " over " + s, x.edge(136), 1);
            }
            for (int s : farther) {
                SkyWatchers x = Due.with(kind, s, 91);
                due.is("edge: kind " + kind + " over " + s + ", not hidden", x.edge(136), 1);
                x.hide(136, 1);
                due.is("edge: kind " + kind + " over " + s, x.edge(136), 0);
            }
        }
        // over the rim, two squares that follow one another lie 15 apart
        SkyWatchers x = Due.with(3, 15, 91, 3, 17, 91);
        x.hide(16, 1);
        due.is("edge(16)", x.edge(16), 2);
        // one that never looks doesn't see from within 1 either
        for (int kind : new int[] {2, 4, 5}) {
            SkyWatchers y = Due.with(kind, 136, 91);
            due.is("edge: kind " + kind, y.edge(136), 0);
            y.hide(136, 1);
            due.is("edge: kind " + kind + ", hidden", y.edge(136), 0);
        }
    }

    // ---- WATCHERS (10 at most, numbered from 0)

    private static void tenWatchers(SkyWatchers x) {
        for (int i = 0; i < 10; i++) {
            x.watcher(i % 6, 25 * i, 10 * i + i % 9 + 1);
        }
    }

    private static void tenWatchersAtMost() {
        SkyWatchers x = new SkyWatchers();
        for (int i = 0; i < 10; i++) {
            due.is("count(0)", x.count(0), i);
            due.is("watcher " + i, x.watcher(i % 6, 25 * i, 10 * i + i % 9 + 1), i);
        }
        due.is("count(0)", x.count(0), 10);
        Still.refused(due, PlainBoundsTest::tenWatchers, "an eleventh", y -> y.watcher(5, 255, 99), FULL);
        Still.refused(due, PlainBoundsTest::tenWatchers, "an eleventh", y -> y.watcher(0, 0, 1), FULL);
    }

    private static void watchersAreNumberedFrom0() {
        SkyWatchers none = new SkyWatchers();
        SkyWatchers one = Due.with(0, 136, 1);
        SkyWatchers ten = new SkyWatchers();
        tenWatchers(ten);
        for (int w : new int[] {LEAST, -65536, -256, -10, -1, 0, 1, 9, 10, 11, 256, 65536, GREATEST}) {
            byWatcher(none, w, false);
            byWatcher(one, w, w == 0);
            byWatcher(ten, w, w >= 0 && w <= 9);
            if (w < 0 || w > 9) {
                Still.refused(due, "hang " + w, x -> x.hang(w, 0), BAD);
                Still.refused(due, "told " + w, x -> x.told(w, 0), -5);
                Still.refused(due, "find " + w, x -> x.find(136, w, 0), BAD);
                Still.refused(due, "wasted " + w, x -> x.wasted(w), BAD);
                Still.refused(due, "alone " + w, x -> x.alone(136, w), BAD);
                Still.refused(due, "has " + w, x -> x.has(w, 0), SkyWatchers.NO);
                Still.refused(due, "rather " + w, x -> x.rather(w), BAD);
                Still.refused(due, "taken " + w, x -> x.taken(w, 0), -11);
            }
        }
    }

    private static void byWatcher(SkyWatchers x, int w, boolean is) {
        String name = " " + w + " of " + x.count(0);
        due.is("told" + name, x.told(w, 1) == -5 ? 0 : 1, is ? 1 : 0);
        due.is("hang" + name, x.hang(w, is ? x.told(w, 1) : 0) == BAD ? 0 : 1, is ? 1 : 0);
        due.is("find" + name, x.find(136, w, 4) == BAD ? 0 : 1, is ? 1 : 0);
        due.is("wasted" + name, x.wasted(w) == BAD ? 0 : 1, is ? 1 : 0);
        due.is("alone" + name, x.alone(255, w) == BAD ? 0 : 1, is ? 1 : 0);
        due.is("has" + name, x.has(w, 1) == SkyWatchers.NO ? 0 : 1, is ? 1 : 0);
        due.is("rather" + name, x.rather(w) == BAD ? 0 : 1, is ? 1 : 0);
        due.is("taken" + name, x.taken(w, 0) == -11 ? 0 : 1, is ? 1 : 0);
    }

    private static void kindsAre0To5() {
        for (int kind = 0; kind < 6; kind++) {
            SkyWatchers x = Due.with(kind, 7, 36);
            due.is("count(0) with kind " + kind, x.count(0), 1);
            due.is("told(0, 0)", x.told(0, 0), kind);
            due.is("told(0, 1)", x.told(0, 1), 7);
            due.is("told(0, 2)", x.told(0, 2), 3);
            due.is("told(0, 3)", x.told(0, 3), 6);
        }
        for (int kind : new int[] {LEAST, -256, -6, -1, 6, 7, 256, 65536, GREATEST}) {
            Still.refused(due, "watcher of kind " + kind, x -> x.watcher(kind, 0, 1), BAD);
        }
    }

    /** NUMBER (0 .. 9), SPEED (1 .. 9). */
    private static void restIs10TimesNumberAndSpeed() {
        for (int rest = -25; rest <= 125; rest++) {
            boolean is = rest >= 1 && rest <= 99 && rest % 10 != 0;
            SkyWatchers x = new SkyWatchers();
            due.is("watcher of rest " + rest, x.watcher(0, 0, rest), is ? 0 : BAD);
            due.is("count(0)", x.count(0), is ? 1 : 0);
            due.is("told(0, 2) of rest " + rest, x.told(0, 2), is ? rest / 10 : -5);
            due.is("told(0, 3) of rest " + rest, x.told(0, 3), is ? rest % 10 : -5);
        }
        for (int rest : new int[] {LEAST, LEAST + 1, -256, -99, -1, 0, 10, 90, 100, 101, 111, 257, 1011, 65537,
            GREATEST}) {
            Still.refused(due, "watcher of rest " + rest, x -> x.watcher(0, 0, rest), BAD);
        }
    }

    private static void aRefusalOfAWatcherIsBadAheadOfFull() {
        int[][] bad = {{-1, 0, 1}, {6, 0, 1}, {LEAST, 0, 1}, {GREATEST, 0, 1}, {0, -1, 1}, {0, 256, 1},
            {0, LEAST, 1}, {0, GREATEST, 1}, {0, 0, 0}, {0, 0, 10}, {0, 0, 100}, {0, 0, LEAST},
            {0, 0, GREATEST}};
        for (int[] b : bad) {
            Still.refused(due, PlainBoundsTest::tenWatchers, "a bad eleventh " + b[0] + " " + b[1] + " " + b[2],
                    x -> x.watcher(b[0], b[1], b[2]), BAD);
        }
    }

    // ---- LOOKS, GAZES, NEEDS, SLOW

    private static void looks() {
        // kind, rest, how far it looks
        int[][] all = {{0, 1, 3}, {0, 99, 3}, {1, 1, 3}, {1, 11, 4}, {1, 91, 12}, {3, 1, 5}, {3, 11, 6},
            {3, 91, 14}, {2, 1, NONE}, {2, 91, NONE}, {4, 1, NONE}, {4, 91, NONE}, {5, 1, NONE}, {5, 91, NONE}};
        for (int[] k : all) {
            SkyWatchers x = Due.with(k[0], 0, k[1]);
            String name = " of kind " + k[0] + ", rest " + k[1];
            due.is("told(0, 4)" + name, x.told(0, 4), k[2]);
            for (int away = 0; away < 16; away++) {
                int sees = away <= k[2] ? 1 : 0;
                due.is("edge of x " + away + name, x.edge(away), sees);
                due.is("edge of y " + away + name, x.edge(16 * away), sees);
                due.is("edge of both " + away + name, x.edge(17 * away), sees);
            }
        }
    }

    private static void gazes() {
        // kind, rest, how far it gazes
        int[][] all = {{0, 1, 4}, {0, 99, 4}, {1, 1, 4}, {1, 91, 4}, {2, 1, 4}, {2, 11, 5}, {2, 91, 13},
            {3, 1, 2}, {3, 91, 2}, {4, 1, 4}, {4, 11, 5}, {4, 91, 13}, {5, 1, 8}, {5, 11, 10}, {5, 31, 14},
            {5, 41, 16}, {5, 91, 26}};
        for (int[] k : all) {
            String name = " of kind " + k[0] + ", rest " + k[1];
            due.is("told(0, 5)" + name, Due.with(k[0], 0, k[1]).told(0, 5), k[2]);
            for (int away = 0; away < 16; away++) {
                // one fakes over 255, a second one over it follows: a WARY one needs both
                int follows = away <= k[2] ? 1 : 0;
                for (int square : new int[] {255 - away, 255 - 16 * away, 255 - 17 * away}) {
                    SkyWatchers x = Due.with(0, 255, 1, 0, 255, 1, k[0], square, k[1]);
                    due.is("wasted(0): over " + square + name, x.wasted(0), 1 + follows);
                }
            }
        }
    }

    private static void needs() {
        int[] needs = {1, 1, 1, 1, 2, 1};
        for (int kind = 0; kind < 6; kind++) {
            due.is("told(0, 6) of kind " + kind, Due.with(kind, 0, 51).told(0, 6), needs[kind]);
            // none dropped: over 255 nothing can be seen from 0 but by others
            SkyWatchers none = Due.with(kind, 0, 1, 0, 0, 1);
            due.is("find: none dropped, kind " + kind, none.find(255, 0, 0), NONE);
            SkyWatchers one = Due.with(0, 2, 1, kind, 0, 1);
            due.is("wasted(0): one dropped, kind " + kind, one.wasted(0), needs[kind] == 1 ? 1 : 0);
            SkyWatchers two = Due.with(0, 2, 1, kind, 0, 1, 0, 2, 1);
            due.is("wasted(0): two dropped, kind " + kind, two.wasted(0), 2);
        }
    }

    private static void slow() {
        int[] slow = {0, 0, 0, 0, 0, 2};
        for (int kind = 0; kind < 6; kind++) {
            due.is("told(0, 7) of kind " + kind, Due.with(kind, 0, 91).told(0, 7), slow[kind]);
            SkyWatchers x = Due.with(0, 1, 1, 0, 2, 1, kind, 3, 91);
            Due.rule(x, "see far<3;trust 1;cost 1;");
            // 0 and 1 drop in MINUTE 0; it sees that in 1
            due.is("find(0, 2, 0) of kind " + kind, x.find(0, 2, 0), 1 + slow[kind]);
        }
    }

    // ---- promises 1 to 7

    private static void aNewObject() {
        SkyWatchers x = new SkyWatchers();
        int[] counts = {0, 0, 0, 1, 0, 0, 20};
        for (int what = 0; what < 7; what++) {
            due.is("count(" + what + ") of a new one", x.count(what), counts[what]);
        }
        due.is("meat(20)", x.meat(20), 20);
        for (int s = 0; s < 4; s++) {
            due.is("cell: SHEET " + s + " is missing at first", x.cell(s, 0, 0), -11);
        }
        due.is("back()", x.back(), SkyWatchers.STATE);
        // two objects have nothing in common
        SkyWatchers y = Due.with(0, 3, 1);
        y.hide(5, 1);
        y.meat(3);
        due.is("count(0)", x.count(0), 0);
        due.is("hide(5, 0)", x.hide(5, 0), 0);
        due.is("meat(20)", x.meat(20), 20);
    }

    private static void anObjectIsUsedFor512Calls() {
        SkyWatchers x = new SkyWatchers();
        for (int call = 1; call <= 508; call++) {
            due.is("hide: call " + call, x.hide(7, call % 2), call == 1 ? 0 : 1 - call % 2);
        }
        due.is("watcher: call 509", x.watcher(0, 136, 1), 0);
        due.is("dead: call 510", x.dead(140, 99), 0);
        due.is("rest(3): call 511", x.rest(3), 1);
        due.is("has(0, 0): call 512", x.has(0, 0), 19);
    }

    private static void hideTakes0And1() {
        SkyWatchers x = new SkyWatchers();
        due.is("hide(9, 0)", x.hide(9, 0), 0);
        due.is("hide(9, 1)", x.hide(9, 1), 0);
        due.is("hide(9, 1)", x.hide(9, 1), 1);
        due.is("hide(9, 0)", x.hide(9, 0), 1);
        due.is("hide(9, 0)", x.hide(9, 0), 0);
        for (int is : ALL_BUT_BITS) {
            Still.refused(due, "hide(40, " + is + ") of a hidden one", y -> y.hide(40, is), BAD);
            Still.refused(due, "hide(41, " + is + ") of one not hidden", y -> y.hide(41, is), BAD);
            Still.refused(due, "hide(256, " + is + ")", y -> y.hide(256, is), BAD);
        }
    }

    private static void hangTakesWatchersAndSquares() {
        SkyWatchers x = Due.with(0, 0, 1, 1, 255, 1);
        due.is("hang(0, 255)", x.hang(0, 255), 0);
        due.is("hang(0, 0)", x.hang(0, 0), 255);
        due.is("hang(0, 0): where it hangs", x.hang(0, 0), 0);
        due.is("hang(1, 254)", x.hang(1, 254), 255);
        due.is("told(0, 1)", x.told(0, 1), 0);
        due.is("told(1, 1)", x.told(1, 1), 254);
        due.is("hang(2, 0)", x.hang(2, 0), BAD);
        due.is("hang(2, 256)", x.hang(2, 256), BAD);
        due.is("hang of a new one", new SkyWatchers().hang(0, 0), BAD);
        for (int s : NO_SQUARES) {
            Still.refused(due, "hang(3, " + s + ")", y -> y.hang(3, s), BAD);
            Still.refused(due, "hang(4, " + s + ")", y -> y.hang(4, s), BAD);
        }
    }

    private static void meatIs0To99() {
        SkyWatchers x = new SkyWatchers();
        due.is("meat(0)", x.meat(0), 20);
        due.is("meat(99)", x.meat(99), 0);
        due.is("meat(1)", x.meat(1), 99);
        due.is("meat(98)", x.meat(98), 1);
        due.is("count(6)", x.count(6), 98);
        for (int v : new int[] {LEAST, -65536, -256, -99, -1, 100, 101, 256, 300, 65536, GREATEST}) {
            Still.refused(due, "meat(" + v + ")", y -> y.meat(v), BAD);
        }
    }

    private static void sixDead(SkyWatchers x) {
        x.watcher(3, 136, 91);
        for (int i = 0; i < 6; i++) {
            x.dead(51 * i, i == 0 ? 1 : 99);
        }
    }

    private static void deadAreSixAtMost() {
        SkyWatchers x = new SkyWatchers();
        for (int i = 0; i < 6; i++) {
            due.is("count(1)", x.count(1), i);
            due.is("dead " + i, x.dead(51 * i, 99), i);
        }
        due.is("count(1)", x.count(1), 6);
        due.is("found(2)", x.found(2), 6 * 99);
        Still.refused(due, PlainBoundsTest::sixDead, "a seventh", y -> y.dead(0, 1), FULL);
        Still.refused(due, PlainBoundsTest::sixDead, "a seventh", y -> y.dead(255, 99), FULL);
        int[][] bad = {{-1, 1}, {256, 1}, {LEAST, 1}, {GREATEST, 1}, {0, 0}, {0, 100}, {0, LEAST}, {0, GREATEST}};
        for (int[] b : bad) {
            Still.refused(due, PlainBoundsTest::sixDead, "a bad seventh " + b[0] + " " + b[1],
                    y -> y.dead(b[0], b[1]), BAD);
        }
    }

    private static void weightsAre1To99() {
        for (int weight : new int[] {1, 2, 98, 99}) {
            SkyWatchers x = new SkyWatchers();
            due.is("dead(0, " + weight + ")", x.dead(0, weight), 0);
            due.is("found(2)", x.found(2), weight);
        }
        for (int weight : new int[] {LEAST, -256, -99, -1, 0, 100, 101, 257, 65537, GREATEST}) {
            Still.refused(due, "dead(0, " + weight + ")", x -> x.dead(0, weight), BAD);
        }
    }

    private static void toldTellsNineOfEach() {
        SkyWatchers x = Due.with(3, 200, 78);
        int[] wants = {3, 200, 7, 8, 12, 2, 1, 0, 1};
        for (int what = 0; what < 9; what++) {
            due.is("told(0, " + what + ")", x.told(0, what), wants[what]);
        }
        due.is("told(0, 9)", x.told(0, 9), -5);
        due.is("told(1, 9)", x.told(1, 9), -5);
        for (int what : new int[] {LEAST, -256, -5, -1, 9, 10, 256, 65536, GREATEST}) {
            Still.refused(due, "told(0, " + what + ")", y -> y.told(0, what), -5);
            Still.refused(due, "told(4, " + what + ")", y -> y.told(4, what), -5);
        }
    }
}
