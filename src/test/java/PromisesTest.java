/** Promises 1 to 29, one function each (8 to 10: more of them in RulesTest). */
public final class PromisesTest {
    private static final int NONE = SkyWatchers.NONE, BAD = SkyWatchers.BAD;
    private static final int STATE = SkyWatchers.STATE, FULL = SkyWatchers.FULL;
    private static final long NO = SkyWatchers.NO;
    private static final Due due = new Due("PromisesTest");

    public static void main(String[] args) {
        constants();
        promise1New();
        promise2Hide();
        promise3Watcher();
        promise4Hang();
        promise5Meat();
        promise6Dead();
        promise7Told();
        promise8Feed();
        promise9Text();
        promise10Force();
        promise11Find();
        promise11FindBySlowOnes();
        promise11FindByWaryOnes();
        promise11FindByRule();
        promise11FindLate();
        promise11Shares();
        promise12Edge();
        promise13Wasted();
        promise14Alone();
        promise15IsTrue();
        promise16Has();
        promise17Found();
        promise18Good();
        promise19Rather();
        promise20Rest();
        promise21Apart();
        promise22And23Image();
        promise24Count();
        promise25Sheet();
        promise26Cell();
        promise27Copy();
        promise28Watchers();
        promise29Taken();
        due.end();
    }

    /** A new object with one watcher of each (kind, square, rest). */
    private static SkyWatchers with(int... watchers) {
        SkyWatchers x = new SkyWatchers();
        for (int i = 0; i + 2 < watchers.length; i += 3) {
            due.is("watcher " + i / 3, x.watcher(watchers[i], watchers[i + 1], watchers[i + 2]), i / 3);
        }
        return x;
    }

    /** Tests all five answers of find(). */
    private static void find(SkyWatchers x, int square, int watcher, int... wants) {
        for (int what = 0; what < 5; what++) {
            due.is("find(" + square + ", " + watcher + ", " + what + ")",
                    x.find(square, watcher, what), wants[what]);
        }
    }

    private static void findsNothing(SkyWatchers x, int square, int watcher) {
        find(x, square, watcher, NONE, NONE, NONE, NONE, NONE);
    }

    private static void lay(SkyWatchers x, int sheet, int sort, int... items) {
        due.is("sheet", x.sheet(sheet, sort, items.length), 1);
        for (int i = 0; i < items.length; i++) {
            due.is("cell", x.cell(sheet, i, items[i]), 1);
        }
    }

    private static void constants() {
        due.is("NONE", NONE, -1);
        due.is("BAD", BAD, -2);
        due.is("STATE", STATE, -3);
        due.is("FULL", FULL, -4);
        due.is("NO", NO, -4611686018427387904L);
    }

    private static void promise1New() {
        SkyWatchers x = new SkyWatchers();
        int[] counts = {0, 0, 0, 1, 0, 0, 20};
        for (int what = 0; what < counts.length; what++) {
            due.is("count(" + what + ") of a new one", x.count(what), counts[what]);
        }
        due.is("apart()", x.apart(), 0);
        due.is("edge(0)", x.edge(0), 0);
        due.is("good(0)", x.good(0), 0);
        due.is("good(1)", x.good(1), 1);
        due.is("found(0)", x.found(0), 0);
        due.is("found(1)", x.found(1), 1);
        due.is("found(2)", x.found(2), 0);
        due.is("rest(3)", x.rest(3), 0);
        due.is("back()", x.back(), STATE);
        due.is("has(0, 0)", x.has(0, 0), NO);
        due.is("cell(0, 0, 0)", x.cell(0, 0, 0), -11);
        due.is("image()", x.image(), 0);
        due.is("back()", x.back(), 0);
    }

    private static void promise2Hide() {
        SkyWatchers x = with(0, 34, 1, 0, 17, 1);
        due.is("hide(-1, 1)", x.hide(-1, 1), BAD);
        due.is("hide(256, 1)", x.hide(256, 1), BAD);
        due.is("hide(0, 2)", x.hide(0, 2), BAD);
        due.is("hide(0, -1)", x.hide(0, -1), BAD);
        due.is("count(2)", x.count(2), 0);
        due.is("edge(0)", x.edge(0), 3);
        due.is("hide(0, 1)", x.hide(0, 1), 0);
        due.is("hide(255, 1)", x.hide(255, 1), 0);
        due.is("hide(0, 1)", x.hide(0, 1), 1);
        due.is("count(2)", x.count(2), 2);
        due.is("edge(0): FAR 1 sees, FAR 2 does not", x.edge(0), 2);
        due.is("edge(1)", x.edge(1), 3);
        due.is("hide(0, 0)", x.hide(0, 0), 1);
        due.is("hide(0, 0)", x.hide(0, 0), 0);
        due.is("edge(0)", x.edge(0), 3);
        due.is("count(2)", x.count(2), 1);
        // a hidden square does not hide who hangs over it
        due.is("hide(34, 1)", x.hide(34, 1), 0);
        due.is("wasted(0)", x.wasted(0), 1);
    }

    private static void promise3Watcher() {
        SkyWatchers x = new SkyWatchers();
        int[][] bad = {{-1, 0, 1}, {6, 0, 1}, {0, -1, 1}, {0, 256, 1}, {0, 0, -1}, {0, 0, 0},
            {0, 0, 10}, {0, 0, 90}, {0, 0, 100}, {0, 0, 101}, {0, 0, -9}, {0, 0, 1001}};
        for (int[] b : bad) {
            due.is("watcher of " + b[0] + " " + b[1] + " " + b[2], x.watcher(b[0], b[1], b[2]), BAD);
        }
        due.is("count(0)", x.count(0), 0);
        for (int i = 0; i < 10; i++) {
            due.is("watcher " + i, x.watcher(i % 6, 255 - i, i == 0 ? 1 : 10 * i + i), i);
        }
        due.is("told(0, 3)", x.told(0, 3), 1);
        due.is("told(9, 0)", x.told(9, 0), 3);
        due.is("told(9, 1)", x.told(9, 1), 246);
        due.is("told(9, 2)", x.told(9, 2), 9);
        due.is("told(9, 3)", x.told(9, 3), 9);
        due.is("an eleventh", x.watcher(0, 0, 1), FULL);
        due.is("a bad eleventh", x.watcher(0, 0, 0), BAD);
        due.is("a bad eleventh", x.watcher(6, 0, 1), BAD);
        due.is("count(0)", x.count(0), 10);
    }

    private static void promise4Hang() {
        SkyWatchers x = with(0, 5, 1, 3, 0, 99);
        due.is("hang(-1, 0)", x.hang(-1, 0), BAD);
        due.is("hang(2, 0)", x.hang(2, 0), BAD);
        due.is("hang(0, -1)", x.hang(0, -1), BAD);
        due.is("hang(0, 256)", x.hang(0, 256), BAD);
        due.is("hang(0, 255)", x.hang(0, 255), 5);
        due.is("hang(0, 0)", x.hang(0, 0), 255);
        due.is("hang(0, 0)", x.hang(0, 0), 0);
        due.is("told(0, 1)", x.told(0, 1), 0);
        due.is("told(1, 1)", x.told(1, 1), 0);
        due.is("edge(0)", x.edge(0), 3);
    }

    private static void promise5Meat() {
        SkyWatchers x = with(0, 0, 1);
        due.is("meat(-1)", x.meat(-1), BAD);
        due.is("meat(100)", x.meat(100), BAD);
        due.is("meat(99)", x.meat(99), 20);
        due.is("find", x.find(0, 0, 3), 60);
        due.is("meat(0)", x.meat(0), 99);
        due.is("find", x.find(0, 0, 3), 0);
        due.is("meat(7)", x.meat(7), 0);
        due.is("find", x.find(0, 0, 3), 7);
        due.is("count(6)", x.count(6), 7);
    }

    private static void promise6Dead() {
        SkyWatchers x = new SkyWatchers();
        due.is("dead(-1, 1)", x.dead(-1, 1), BAD);
        due.is("dead(256, 1)", x.dead(256, 1), BAD);
        due.is("dead(0, 0)", x.dead(0, 0), BAD);
        due.is("dead(0, 100)", x.dead(0, 100), BAD);
        for (int i = 0; i < 6; i++) {
            due.is("dead " + i, x.dead(i == 0 ? 255 : 0, i == 1 ? 99 : 1), i);
        }
        due.is("a seventh", x.dead(0, 1), FULL);
        due.is("a bad seventh", x.dead(0, 100), BAD);
        due.is("count(1)", x.count(1), 6);
        due.is("found(2)", x.found(2), 104);
    }

    private static void promise7Told() {
        SkyWatchers x = with(0, 1, 51, 1, 2, 52, 2, 3, 53, 3, 4, 54, 4, 5, 55, 5, 6, 56);
        int[][] wants = {
            {0, 1, 5, 1, 3, 4, 1, 0, 1}, {1, 2, 5, 2, 8, 4, 1, 0, 1}, {2, 3, 5, 3, NONE, 9, 1, 0, 1},
            {3, 4, 5, 4, 10, 2, 1, 0, 1}, {4, 5, 5, 5, NONE, 9, 2, 0, 1}, {5, 6, 5, 6, NONE, 18, 1, 2, 1}};
        for (int i = 0; i < 6; i++) {
            for (int what = 0; what < 9; what++) {
                due.is("told(" + i + ", " + what + ")", x.told(i, what), wants[i][what]);
            }
            due.is("told(" + i + ", 9)", x.told(i, 9), -5);
            due.is("told(" + i + ", -1)", x.told(i, -1), -5);
        }
        due.is("told(-1, 0)", x.told(-1, 0), -5);
        due.is("told(6, 0)", x.told(6, 0), -5);
        Due.rule(x, "see 1;trust 1;cost hung*100+kind*10+number;");
        due.is("told(0, 8): hung 8 is 805", x.told(0, 8), 805);
        due.is("told(5, 8)", x.told(5, 8), 855);
        due.is("hang(5, 138)", x.hang(5, 138), 6);
        due.is("told(5, 8)", x.told(5, 8), 255);
        due.is("hang(5, 0)", x.hang(5, 15), 138);
        due.is("told(5, 8)", x.told(5, 8), 855);
    }

    private static void promise8Feed() {
        SkyWatchers x = new SkyWatchers();
        due.is("feed(0, 0)", x.feed(0, 0), BAD);
        due.is("feed(9, 0)", x.feed(9, 0), BAD);
        due.is("feed(1, ' ')", x.feed(1, 0x7a20), 1);
        due.is("feed(8, ..)", x.feed(8, 0x7375727431656573L), 9);
        due.is("text(): trus is no word", x.text(), -105);
    }

    private static void promise9Text() {
        SkyWatchers x = new SkyWatchers();
        due.is("text()", x.text(), -100);
        due.is("text()", Due.text(x, "see 1;trust 1;cost 1;"), 1);
        due.is("count(5)", x.count(5), 0);
        due.is("text()", Due.text(x, "see 1;trust 1;cost x;"), -119);
        due.is("count(3)", x.count(3), 2);
    }

    private static void promise10Force() {
        SkyWatchers x = new SkyWatchers();
        due.is("force(1)", x.force(1), BAD);
        due.is("text()", Due.text(x, "see 1;trust 1;cost 1;"), 1);
        due.is("force(1)", x.force(1), 0);
        due.is("force(2)", x.force(2), BAD);
        due.is("force(0)", x.force(0), 1);
    }

    private static void promise11Find() {
        // over 0 sees 3 far; over 4 sees who hangs 4 far; over 9 is 5 far from that one
        SkyWatchers x = with(0, 3, 2, 0, 7, 3, 0, 11, 9, 0, 255, 1);
        due.is("find(-1, 0, 0)", x.find(-1, 0, 0), BAD);
        due.is("find(256, 0, 0)", x.find(256, 0, 0), BAD);
        due.is("find(0, -1, 0)", x.find(0, -1, 0), BAD);
        due.is("find(0, 4, 0)", x.find(0, 4, 0), BAD);
        due.is("find(0, 0, -1)", x.find(0, 0, -1), BAD);
        due.is("find(0, 0, 5)", x.find(0, 0, 5), BAD);
        due.is("find(0, 3, 5) of one that won't drop", x.find(0, 3, 5), BAD);
        x.meat(99);
        // drops 0, comes 2 (3 far, 2 a minute); 1 and 4; 2 and 4
        find(x, 0, 0, 0, 2, NONE, 35, 0);
        find(x, 0, 1, 1, 4, 0, 32, 1);
        find(x, 0, 2, 2, 4, 1, 32, 2);
        findsNothing(x, 0, 3);
        // of like ones that dropped first the least is who it is after
        SkyWatchers y = with(0, 36, 1, 0, 34, 1, 0, 32, 1, 0, 5, 1);
        find(y, 33, 0, 0, 3, NONE, 4, 0);
        find(y, 33, 3, 1, 5, 0, 2, 1);
        due.is("edge(33)", y.edge(33), 7);
        due.is("hang(0, 255)", y.hang(0, 255), 36);
        find(y, 33, 3, 1, 5, 1, 4, 1);
        findsNothing(y, 33, 0);
    }

    private static void promise11FindBySlowOnes() {
        SkyWatchers x = with(2, 10, 21, 1, 0, 1, 5, 4, 3);
        // they come in 0, 5 and 14; LAZY has SEEN in 1, drops in 3; SKY (gazes 6) sees that in 4
        find(x, 0, 1, 0, 0, NONE, 13, 0);
        find(x, 0, 2, 3, 5, 1, 7, 1);
        find(x, 0, 0, 4, 14, 2, 0, 2);
        x.meat(99);
        find(x, 0, 0, 4, 14, 2, 25, 2);
        // with a gaze less it does not
        SkyWatchers y = with(2, 10, 11, 1, 0, 1, 5, 4, 3);
        findsNothing(y, 0, 0);
    }

    private static void promise11FindByWaryOnes() {
        // a WARY one needs two; a KEEN one gazes 2 and looks farther
        SkyWatchers x = with(4, 4, 1, 0, 0, 1, 4, 8, 41, 0, 6, 1);
        find(x, 0, 1, 0, 0, NONE, 20, 0);
        findsNothing(x, 0, 0);
        findsNothing(x, 0, 2);
        due.is("hang(3, 3)", x.hang(3, 3), 6);
        find(x, 0, 0, 1, 5, 1, 4, 1);
        find(x, 0, 3, 0, 3, NONE, 6, 0);
        find(x, 0, 2, 1, 9, 1, 0, 1);
        SkyWatchers y = with(0, 0, 1, 3, 3, 1, 3, 2, 11, 3, 100, 1);
        due.is("edge(16): FAR 1, 3, 2, 5", y.edge(16), 15);
        due.is("edge(96): FAR 6, 6, 6, 4", y.edge(96), 12);
        due.is("edge(112): FAR 7, 7, 7, 4", y.edge(112), 8);
        due.is("hide(0, 1)", y.hide(0, 1), 0);
        // 1 hangs 3 far from 0, and 1 from 2, who hangs 2 far from 0
        find(y, 0, 0, 0, 0, NONE, 10, 0);
        find(y, 0, 1, 2, 5, 2, 4, 2);
        find(y, 0, 2, 1, 3, 0, 6, 1);
        findsNothing(y, 0, 3);
    }

    private static void promise11FindByRule() {
        SkyWatchers x = with(0, 136, 1, 0, 137, 1, 0, 139, 1, 0, 135, 1);
        // sees from 2 far on only, never follows
        due.is("rule", Due.rule(x, "see 1<far;trust 0;cost 1;"), 1);
        due.is("edge(136)", x.edge(136), 4);
        findsNothing(x, 136, 0);
        // who does not see by the ground may follow, in a later minute
        due.is("rule", Due.rule(x, "see far=3;trust dropped=2;cost 1;"), 2);
        due.is("edge(136)", x.edge(136), 4);
        findsNothing(x, 136, 1);
        // 2 drops in 0; from 2 on 0 follows; from 4 on those who see just two that dropped
        due.is("rule", Due.rule(x, "see far=3;trust far=0 and minute=2 or dropped=2 and not far=0;cost 1;"), 3);
        find(x, 136, 0, 2, 2, 2, 7, 1);
        find(x, 136, 1, 3, 4, 2, 4, 1);
        find(x, 136, 2, 0, 3, NONE, 5, 0);
        find(x, 136, 3, 3, 4, 2, 4, 1);
        // by number, kind, hung
        due.is("rule", Due.rule(x, "see hung=3 or kind=1 or number=4;trust 0;cost 1;"), 4);
        due.is("watcher(1, 136, 1)", x.watcher(1, 136, 1), 4);
        due.is("watcher(0, 136, 41)", x.watcher(0, 136, 41), 5);
        due.is("edge(137)", x.edge(137), 4 + 16 + 32);
        // what see tells is as of others that dropped, too
        due.is("rule", Due.rule(x, "see far=3 or dropped=1;trust 0;cost 1;"), 5);
        due.is("edge(136)", x.edge(136), 63);
        find(x, 136, 0, 1, 1, NONE, x.find(136, 0, 3), 0);
    }

    private static void promise11FindLate() {
        SkyWatchers x = with(0, 3, 1, 5, 4, 1, 0, 6, 1);
        due.is("rule", Due.rule(x, "see minute=27;trust 1;cost 1;"), 1);
        x.meat(99);
        find(x, 0, 0, 27, 30, NONE, 30, 0);
        find(x, 0, 1, 30, 34, 0, 26, 1);
        find(x, 0, 2, 28, 34, 0, 26, 1);
        due.is("rule", Due.rule(x, "see minute=28;trust 1;cost 1;"), 2);
        find(x, 0, 0, 28, 31, NONE, 29, 0);
        findsNothing(x, 0, 1);
        find(x, 0, 2, 29, 35, 0, 25, 1);
        due.is("rule", Due.rule(x, "see minute=30;trust 1;cost 1;"), 3);
        find(x, 0, 0, 30, 33, NONE, 27, 0);
        findsNothing(x, 0, 2);
        due.is("edge(0)", x.edge(0), 1);
        due.is("rule", Due.rule(x, "see minute=31;trust 1;cost 1;"), 4);
        findsNothing(x, 0, 0);
        due.is("edge(0)", x.edge(0), 0);
        // the latest that can be: dropped in 30, 15 far, comes in 45
        SkyWatchers y = with(0, 243, 1, 2, 255, 91);
        due.is("rule", Due.rule(y, "see minute=29;trust 1;cost 1;"), 1);
        y.meat(99);
        find(y, 240, 0, 29, 32, NONE, 28, 0);
        find(y, 240, 1, 30, 45, 0, 15, 1);
    }

    private static void promise11Shares() {
        // all over one square: those who come in a minute have theirs by numbers
        SkyWatchers x = with(0, 0, 1, 0, 0, 1, 0, 1, 1, 0, 0, 1);
        x.meat(8);
        int[] wants = {3, 2, 1, 2};
        for (int i = 0; i < 4; i++) {
            due.is("find(0, " + i + ", 3)", x.find(0, i, 3), wants[i]);
        }
        // who came later comes behind, whatever its number: in 1: 0 3, 1 3, 3 2 are had, then 2
        x.meat(7);
        due.is("find(0, 2, 3)", x.find(0, 2, 3), 1);
        x.meat(6);
        due.is("find(0, 2, 3)", x.find(0, 2, 3), 0);
        // there is some left behind MINUTE 59
        SkyWatchers y = with(0, 2, 1);
        y.meat(99);
        due.is("find(0, 0, 3)", y.find(0, 0, 3), 58);
        y.meat(58);
        due.is("find(0, 0, 3)", y.find(0, 0, 3), 58);
        y.meat(57);
        due.is("find(0, 0, 3)", y.find(0, 0, 3), 57);
    }

    private static void promise12Edge() {
        SkyWatchers x = with(0, 3, 1, 2, 0, 1, 1, 5, 21, 3, 48, 1, 5, 0, 1, 4, 0, 1);
        due.is("edge(-1)", x.edge(-1), BAD);
        due.is("edge(256)", x.edge(256), BAD);
        due.is("edge(0)", x.edge(0), 1 + 4 + 8);
        due.is("edge(255)", x.edge(255), 0);
        due.is("edge(11)", x.edge(11), 0);
        due.is("edge(10)", x.edge(10), 4);
    }

    private static void promise13Wasted() {
        SkyWatchers x = with(1, 0, 91, 1, 3, 91, 0, 7, 1, 4, 2, 9, 0, 12, 1);
        due.is("wasted(-1)", x.wasted(-1), BAD);
        due.is("wasted(5)", x.wasted(5), BAD);
        // 1 sees 0 dropping; 2 sees 1; 3 sees both; 4 sees no one
        due.is("wasted(0)", x.wasted(0), 3);
        due.is("wasted(4)", x.wasted(4), 0);
        due.is("wasted(2)", x.wasted(2), 3);
        // no one sees a FAKE by the GROUND, and who fakes needs no rule, and isn't slow
        due.is("rule", Due.rule(x, "see 1;trust 0;cost 1;"), 1);
        due.is("wasted(0)", x.wasted(0), 0);
        due.is("rule", Due.rule(x, "see 0;trust minute=1 and far=3;cost 1;"), 2);
        due.is("wasted(0): far is as to where it fakes", x.wasted(0), 1);
        SkyWatchers y = with(5, 0, 1, 0, 4, 1);
        due.is("rule", Due.rule(y, "see 0;trust minute=1;cost 1;"), 1);
        due.is("wasted(0)", y.wasted(0), 1);
        due.is("wasted(1)", y.wasted(1), 1);
        SkyWatchers z = with(5, 0, 1);
        due.is("wasted(0) of one alone", z.wasted(0), 0);
    }

    private static void promise14Alone() {
        SkyWatchers x = with(0, 0, 1, 0, 4, 1, 0, 8, 1);
        due.is("alone(-1, 0)", x.alone(-1, 0), BAD);
        due.is("alone(256, 0)", x.alone(256, 0), BAD);
        due.is("alone(0, -1)", x.alone(0, -1), BAD);
        due.is("alone(0, 3)", x.alone(0, 3), BAD);
        // with 0: comes in 0, 5, 10: 10 of 20 are had when 2 comes
        due.is("find(0, 0, 3)", x.find(0, 0, 3), 12);
        due.is("find(0, 1, 3)", x.find(0, 1, 3), 7);
        due.is("find(0, 2, 3)", x.find(0, 2, 3), 1);
        due.is("alone(0, 0): no one drops then", x.alone(0, 0), -8);
        due.is("alone(0, 1): no one leads 2 there", x.alone(0, 1), 20 - 13);
        due.is("alone(0, 2)", x.alone(0, 2), 20 - 19);
        due.is("alone(255, 0)", x.alone(255, 0), 0);
        due.is("count(0)", x.count(0), 3);
    }

    private static void promise15IsTrue() {
        SkyWatchers x = with(0, 3, 2, 0, 7, 3, 0, 255, 1);
        lay(x, 0, 0, 2, 4, -1);
        lay(x, 1, 1, 2, 4, -1);
        lay(x, 2, 2, 2, 4, -1);
        due.is("isTrue(-1, 0)", x.isTrue(-1, 0), BAD);
        due.is("isTrue(256, 0)", x.isTrue(256, 0), BAD);
        due.is("isTrue(0, -1)", x.isTrue(0, -1), BAD);
        due.is("isTrue(0, 4)", x.isTrue(0, 4), BAD);
        due.is("isTrue(0, 3)", x.isTrue(0, 3), -11);
        due.is("isTrue(256, 3)", x.isTrue(256, 3), BAD);
        for (int sheet = 0; sheet < 3; sheet++) {
            due.is("isTrue(0, " + sheet + ")", x.isTrue(0, sheet), NONE);
            due.is("isTrue(255, " + sheet + ")", x.isTrue(255, sheet), 0);
        }
        due.is("cell(1, 2, 0)", x.cell(1, 2, 0), 1);
        due.is("isTrue(0, 1)", x.isTrue(0, 1), 2);
        due.is("cell(1, 1, -1)", x.cell(1, 1, -1), 1);
        due.is("isTrue(0, 1)", x.isTrue(0, 1), 1);
        due.is("cell(0, 0, 258)", x.cell(0, 0, 258), 1);
        due.is("isTrue(0, 0): 258 is 2 in bytes", x.isTrue(0, 0), NONE);
        due.is("cell(2, 0, 258)", x.cell(2, 0, 258), 1);
        due.is("isTrue(0, 2)", x.isTrue(0, 2), 0);
        lay(x, 0, 0, 2, 4);
        due.is("isTrue(0, 0): too few", x.isTrue(0, 0), BAD);
        lay(x, 0, 0, 2, 4, -1, 0);
        due.is("isTrue(0, 0): too many", x.isTrue(0, 0), BAD);
        SkyWatchers y = new SkyWatchers();
        lay(y, 0, 2);
        due.is("isTrue(0, 0) of none", y.isTrue(0, 0), NONE);
    }

    private static void has(SkyWatchers x, int watcher, long above, long below) {
        due.is("has(" + watcher + ", 0)", x.has(watcher, 0), above);
        due.is("has(" + watcher + ", 1)", x.has(watcher, 1), below);
    }

    private static void promise16Has() {
        SkyWatchers x = with(0, 0, 1, 0, 255, 1);
        due.is("has(-1, 0)", x.has(-1, 0), NO);
        due.is("has(2, 0)", x.has(2, 0), NO);
        due.is("has(0, -1)", x.has(0, -1), NO);
        due.is("has(0, 2)", x.has(0, 2), NO);
        has(x, 0, -1, 1);
        x.dead(0, 3);
        has(x, 0, 19, 1);
        has(x, 1, -1, 1);
        x.dead(255, 6);
        // 3 times 20 by 9, less 1; 6 times 20 by 9, less 1
        has(x, 0, 17, 3);
        has(x, 1, 37, 3);
        x.dead(120, 1);
        has(x, 0, 5, 1);
        has(x, 1, 11, 1);
        x.meat(0);
        has(x, 0, -1, 1);
        Due.rule(x, "see 1;trust 1;cost 0;");
        has(x, 0, 0, 1);
        x.meat(1);
        has(x, 0, 3, 10);
        has(x, 1, 3, 5);
        Due.rule(x, "see 1;trust 1;cost 9999;");
        has(x, 0, -9987, 10);
    }

    private static void found(SkyWatchers x, long above, long below, long missed) {
        due.is("found(0)", x.found(0), above);
        due.is("found(1)", x.found(1), below);
        due.is("found(2)", x.found(2), missed);
    }

    private static void promise17Found() {
        SkyWatchers x = with(0, 3, 1, 0, 1, 1, 0, 255, 5);
        due.is("found(-1)", x.found(-1), NO);
        due.is("found(3)", x.found(3), NO);
        found(x, 0, 1, 0);
        x.dead(120, 7);
        found(x, 0, 1, 7);
        x.dead(0, 4);
        // the first one comes in 1
        found(x, 1, 1, 7);
        x.dead(252, 2);
        x.dead(3, 2);
        // 4 times 1, 2 times 1, 2 times 0, by 8
        found(x, 3, 4, 7);
        x.dead(121, 90);
        found(x, 3, 4, 97);
        x.meat(0);
        found(x, 3, 4, 97);
        SkyWatchers y = with(0, 3, 1);
        y.dead(3, 5);
        found(y, 0, 1, 0);
    }

    private static void promise18Good() {
        SkyWatchers x = with(0, 0, 1, 0, 255, 1);
        due.is("good(-1)", x.good(-1), NO);
        due.is("good(2)", x.good(2), NO);
        due.is("good(0)", x.good(0), -2);
        due.is("good(1)", x.good(1), 1);
        x.dead(0, 3);
        x.dead(120, 5);
        // 3 times 20 by 8, less 2
        due.is("good(0)", x.good(0), 11);
        due.is("good(1)", x.good(1), 2);
        SkyWatchers y = new SkyWatchers();
        y.dead(0, 3);
        due.is("good(0)", y.good(0), 0);
        due.is("good(1)", y.good(1), 1);
    }

    private static void promise19Rather() {
        SkyWatchers x = with(0, 136, 1);
        due.is("rather(-1)", x.rather(-1), BAD);
        due.is("rather(1)", x.rather(1), BAD);
        due.is("rather(0): all are alike", x.rather(0), NONE);
        // at 4 far nothing is to be had, over 135 the same; over 137 it sees what lies 3 far
        x.dead(140, 1);
        due.is("rather(0)", x.rather(0), 137);
        due.is("told(0, 1): it stays", x.told(0, 1), 136);
        x.hide(140, 1);
        due.is("rather(0)", x.rather(0), NONE);
        // of like ones the least: above, left, right and below in their order
        Due.rule(x, "see 0;trust 0;cost 9-hung;");
        due.is("rather(0)", x.rather(0), 120);
        for (int rim : new int[] {8, 0, 143, 248, 255}) {
            x.hang(0, rim);
            due.is("rather(0): over the rim, at " + rim + ", there is none", x.rather(0), NONE);
        }
        x.hang(0, 129);
        due.is("rather(0)", x.rather(0), 128);
        x.hang(0, 24);
        due.is("rather(0)", x.rather(0), 8);
        Due.rule(x, "see 0;trust 0;cost hung;");
        x.hang(0, 0);
        due.is("rather(0): only both ways together are nearer", x.rather(0), NONE);
        x.hang(0, 143);
        due.is("rather(0)", x.rather(0), 142);
        x.hang(0, 248);
        due.is("rather(0)", x.rather(0), 232);
        x.hang(0, 255);
        due.is("rather(0): 239 would be 7 far, as 255 is", x.rather(0), NONE);
        x.hang(0, 8);
        due.is("rather(0)", x.rather(0), 24);
        x.hang(0, 128);
        due.is("rather(0)", x.rather(0), 129);
        SkyWatchers v = with(0, 136, 1);
        v.dead(140, 1);
        v.dead(132, 1);
        due.is("rather(0): left and right are alike", v.rather(0), 135);
        // rows end: 15 and 16 lie not beside one another
        SkyWatchers y = with(0, 15, 1, 0, 16, 1);
        Due.rule(y, "see 0;trust 0;cost 0;");
        y.dead(16, 1);
        due.is("rather(0)", y.rather(0), NONE);
        due.is("rather(1)", y.rather(1), NONE);
        // the most, not the first that is more
        SkyWatchers z = with(0, 136, 1);
        Due.rule(z, "see 1;trust 1;cost 0;");
        z.meat(99);
        z.dead(139, 2);
        z.dead(88, 1);
        // here 57 * 2 + 57, over 120 57 * 2 + 58, over 137 58 * 2 + 57
        due.is("rather(0)", z.rather(0), 137);
    }

    private static void promise20Rest() {
        SkyWatchers x = with(0, 136, 1, 0, 128, 1);
        due.is("rest(-1)", x.rest(-1), BAD);
        due.is("rest(4)", x.rest(4), BAD);
        due.is("rest(3)", x.rest(3), 0);
        Due.rule(x, "see 0;trust 0;cost hung;");
        due.is("rest(0)", x.rest(0), 0);
        due.is("told(1, 1)", x.told(1, 1), 128);
        due.is("rest(3)", x.rest(3), 3);
        due.is("told(0, 1)", x.told(0, 1), 136);
        due.is("told(1, 1)", x.told(1, 1), 131);
        due.is("rest(2)", x.rest(2), 2);
        due.is("rest(1)", x.rest(1), 1);
        due.is("rest(3): two are enough", x.rest(3), 2);
        due.is("told(1, 1)", x.told(1, 1), 136);
        due.is("rest(3)", x.rest(3), 0);
        // the least one again and again, then the next
        x.hang(0, 134);
        x.hang(1, 133);
        due.is("rest(3)", x.rest(3), 3);
        due.is("told(0, 1)", x.told(0, 1), 136);
        due.is("told(1, 1)", x.told(1, 1), 134);
    }

    private static void promise21Apart() {
        SkyWatchers x = with(0, 0, 1);
        due.is("apart() of one alone", x.apart(), 0);
        x.watcher(2, 35, 1);
        due.is("apart()", x.apart(), 6);
        x.watcher(2, 255, 1);
        due.is("apart()", x.apart(), 3 + 3 + 13);
        x.watcher(2, 255, 1);
        due.is("apart()", x.apart(), 3 + 3);
        x.hang(3, 15);
        due.is("apart()", x.apart(), 3 + 3 + 13 + 12);
    }

    private static void promise22And23Image() {
        SkyWatchers x = with(0, 5, 1, 1, 6, 1);
        due.is("back()", x.back(), STATE);
        x.dead(1, 1);
        due.is("text()", Due.text(x, "see 1;trust 1;cost 3;"), 1);
        x.hide(9, 1);
        due.is("image()", x.image(), 2);
        x.hang(0, 100);
        x.hang(1, 101);
        x.meat(3);
        x.force(1);
        x.dead(2, 2);
        x.hide(9, 0);
        x.feed(3, 0);
        due.is("watcher", x.watcher(2, 33, 1), 2);
        x.hang(2, 44);
        due.is("text()", Due.text(x, "see 1"), -100);
        due.is("back()", x.back(), 3);
        due.is("told(0, 1)", x.told(0, 1), 5);
        due.is("told(1, 1)", x.told(1, 1), 6);
        due.is("told(2, 1): it stays", x.told(2, 1), 44);
        int[] counts = {3, 1, 0, 2, 0, 0, 20};
        for (int what = 0; what < counts.length; what++) {
            due.is("count(" + what + ") after back()", x.count(what), counts[what]);
        }
        // DEAD go on from there, and THE IMAGE stays
        due.is("dead(7, 7)", x.dead(7, 7), 1);
        found(x, 1, 1, 1);
        x.hang(1, 255);
        due.is("back()", x.back(), 3);
        due.is("told(1, 1)", x.told(1, 1), 6);
        due.is("count(1)", x.count(1), 1);
        // a later one is kept in its place
        x.meat(8);
        x.force(1);
        due.is("image()", x.image(), 3);
        x.meat(9);
        x.force(0);
        x.hang(2, 0);
        due.is("back()", x.back(), 3);
        due.is("count(6)", x.count(6), 8);
        due.is("count(5)", x.count(5), 1);
        due.is("told(2, 1)", x.told(2, 1), 44);
    }

    private static void promise24Count() {
        SkyWatchers x = with(0, 0, 1);
        x.dead(0, 1);
        x.dead(0, 1);
        x.hide(1, 1);
        x.hide(2, 1);
        x.hide(3, 1);
        Due.rule(x, "see 1;trust 1;cost 3;");
        Due.text(x, "see 1;trust 1;cost 3;");
        Due.text(x, "see 1;trust 1;cost 3;");
        x.feed(5, 0);
        x.meat(66);
        int[] counts = {1, 2, 3, 4, 5, 1, 66};
        for (int what = 0; what < counts.length; what++) {
            due.is("count(" + what + ")", x.count(what), counts[what]);
        }
        due.is("count(-1)", x.count(-1), BAD);
        due.is("count(7)", x.count(7), BAD);
    }

    private static void promise25Sheet() {
        SkyWatchers x = new SkyWatchers();
        due.is("sheet(-1, 0, 1)", x.sheet(-1, 0, 1), BAD);
        due.is("sheet(4, 0, 1)", x.sheet(4, 0, 1), BAD);
        due.is("sheet(4, -1, 1)", x.sheet(4, -1, 1), BAD);
        due.is("sheet(0, -2, 1)", x.sheet(0, -2, 1), BAD);
        due.is("sheet(0, 3, 1)", x.sheet(0, 3, 1), BAD);
        due.is("sheet(0, 3, -1)", x.sheet(0, 3, -1), BAD);
        due.is("sheet(0, 0, 41)", x.sheet(0, 0, 41), BAD);
        due.is("sheet(0, 0, -1)", x.sheet(0, 0, -1), -14);
        due.is("cell: it is missing still", x.cell(0, 0, 0), -11);
        due.is("sheet(0, 0, 40)", x.sheet(0, 0, 40), 1);
        due.is("cell(0, 39, 7)", x.cell(0, 39, 7), 1);
        due.is("sheet(0, 0, 41)", x.sheet(0, 0, 41), BAD);
        due.is("cell: it is as it was", x.cell(0, 39, 7), 1);
        due.is("sheet(0, -1, 99)", x.sheet(0, -1, 99), 1);
        due.is("cell(0, 0, 7)", x.cell(0, 0, 7), -11);
        due.is("sheet(0, -1, -99)", x.sheet(0, -1, -99), 1);
        due.is("sheet(3, 2, 0)", x.sheet(3, 2, 0), 1);
        due.is("cell(3, 0, 7)", x.cell(3, 0, 7), -12);
        due.is("isTrue(0, 3): of size 0", x.isTrue(0, 3), NONE);
        // a row that comes anew is all 0: kind 0 over square 0, but no speed
        lay(x, 1, 1, 3, 3, 3);
        due.is("watchers", x.watchers(1, 1, 0, 1), 1);
        due.is("sheet(1, 1, 3)", x.sheet(1, 1, 3), 1);
        due.is("cell(1, 2, 9)", x.cell(1, 2, 9), 1);
        due.is("watchers", x.watchers(1, 1, 0, 1), 1);
        due.is("told(1, 0)", x.told(1, 0), 0);
        due.is("told(1, 1)", x.told(1, 1), 0);
    }

    private static void promise26Cell() {
        SkyWatchers x = new SkyWatchers();
        due.is("cell(-1, 0, 0)", x.cell(-1, 0, 0), BAD);
        due.is("cell(4, 0, 0)", x.cell(4, 0, 0), BAD);
        due.is("cell(0, -1, 0)", x.cell(0, -1, 0), -11);
        x.sheet(0, 0, 3);
        due.is("cell(0, -1, 0)", x.cell(0, -1, 0), -12);
        due.is("cell(0, 3, 0)", x.cell(0, 3, 0), -12);
        int[] values = {1 + 256 * 5, 127 - 256, 11 + 65536 * 7};
        for (int sort = 0; sort < 3; sort++) {
            lay(x, sort, sort, values);
        }
        // bytes: 1 127 11; shorts: 1281 .. 11; ints: no kind
        due.is("watchers of bytes", x.watchers(0, 0, 0, 1), 1);
        due.is("told(0, 1)", x.told(0, 1), 127);
        due.is("watchers of shorts", x.watchers(1, 1, 0, 1), 0);
        due.is("watchers of ints", x.watchers(2, 2, 0, 1), 0);
        lay(x, 1, 1, 65536 + 2, 255 - 65536, 65536 * 9 + 12);
        due.is("watchers of shorts", x.watchers(1, 1, 0, 1), 1);
        due.is("told(1, 1)", x.told(1, 1), 255);
        lay(x, 2, 2, 65536 + 2, 255, 12);
        due.is("watchers of ints", x.watchers(2, 2, 0, 1), 0);
        lay(x, 0, 0, 2, 128, 12);
        due.is("bytes end at 127", x.watchers(0, 0, 0, 1), 0);
    }

    private static void promise27Copy() {
        SkyWatchers x = new SkyWatchers();
        lay(x, 0, 2, 1, 2, 3, 4, 5, 6);
        lay(x, 1, 2, 0, 0, 0);
        lay(x, 2, 1, 0, 0, 0);
        due.is("copy(-1, ..)", x.copy(-1, 0, 0, 0, 1), BAD);
        due.is("copy(4, ..)", x.copy(4, 0, 0, 0, 1), BAD);
        due.is("copy to -1", x.copy(0, 0, -1, 0, 1), BAD);
        due.is("copy to 4", x.copy(3, 0, 4, 0, 1), BAD);
        due.is("copy from a missing one", x.copy(3, 0, 0, 0, 1), -11);
        due.is("copy to a missing one", x.copy(0, -1, 3, 0, -1), -11);
        due.is("copy of unlike sorts", x.copy(0, -1, 2, 0, -1), -13);
        int[][] outside = {{-1, 0, 1}, {0, -1, 1}, {0, 0, -1}, {4, 0, 3}, {0, 1, 3}, {7, 0, 0}, {0, 4, 0},
            {6, 0, 1}, {Integer.MAX_VALUE, 0, 2}, {1, 0, Integer.MAX_VALUE}, {0, 0, Integer.MIN_VALUE},
            {0, Integer.MAX_VALUE, 2}, {Integer.MIN_VALUE, 0, 1}};
        for (int[] o : outside) {
            due.is("copy outside " + o[0] + " " + o[1] + " " + o[2], x.copy(0, o[0], 1, o[1], o[2]), -12);
        }
        due.is("copy of none at the end", x.copy(0, 6, 1, 3, 0), 0);
        due.is("copy(0, 3, 1, 0, 3)", x.copy(0, 3, 1, 0, 3), 3);
        // 4 5 6: WARY over 5, NUMBER 0, SPEED 6
        due.is("watchers", x.watchers(1, 2, 0, 1), 1);
        due.is("told(0, 0)", x.told(0, 0), 4);
        due.is("told(0, 1)", x.told(0, 1), 5);
        due.is("told(0, 3)", x.told(0, 3), 6);
        // in itself, as they were: 1 1 2 3 4 6
        due.is("copy(0, 0, 0, 1, 4)", x.copy(0, 0, 0, 1, 4), 4);
        due.is("watchers", x.watchers(0, 2, 0, 2), 2);
        due.is("told(1, 0)", x.told(1, 0), 1);
        due.is("told(1, 1)", x.told(1, 1), 1);
        due.is("told(1, 3)", x.told(1, 3), 2);
        due.is("told(2, 0)", x.told(2, 0), 3);
        due.is("told(2, 1)", x.told(2, 1), 4);
        due.is("told(2, 3)", x.told(2, 3), 6);
        // and the other way: 2 3 4 6 4 6
        due.is("copy(0, 2, 0, 0, 4)", x.copy(0, 2, 0, 0, 4), 4);
        due.is("watchers", x.watchers(0, 2, 0, 2), 1);
        due.is("told(3, 0)", x.told(3, 0), 2);
        due.is("told(3, 1)", x.told(3, 1), 3);
        due.is("told(3, 3)", x.told(3, 3), 4);
    }

    private static void promise28Watchers() {
        SkyWatchers x = new SkyWatchers();
        lay(x, 0, 1, 0, 200, 9, 1, 300, 9, 2, 201, 19, 3);
        due.is("watchers(-1, ..)", x.watchers(-1, 0, 0, 1), BAD);
        due.is("watchers(4, ..)", x.watchers(4, 0, 0, 1), BAD);
        due.is("watchers of sort -1", x.watchers(0, -1, 0, 1), BAD);
        due.is("watchers of sort 3", x.watchers(0, 3, 0, 1), BAD);
        due.is("watchers of -1", x.watchers(0, 1, 0, -1), BAD);
        due.is("watchers of 11", x.watchers(0, 1, 0, 11), BAD);
        due.is("watchers of 11 of another sort", x.watchers(0, 0, 0, 11), BAD);
        due.is("watchers of 11 of a missing one", x.watchers(1, 0, 0, 11), BAD);
        due.is("watchers of another sort", x.watchers(0, 0, -1, 1), -13);
        due.is("watchers of another sort", x.watchers(0, 2, 0, 0), -13);
        due.is("watchers of a missing one", x.watchers(1, 0, -1, 1), -11);
        due.is("watchers of a missing one", x.watchers(1, 2, 0, 0), -11);
        due.is("watchers from -1", x.watchers(0, 1, -1, 1), -12);
        due.is("watchers from -3", x.watchers(0, 1, -3, 10), -12);
        due.is("watchers from far", x.watchers(0, 1, Integer.MAX_VALUE, 2), -12);
        due.is("watchers from far below", x.watchers(0, 1, Integer.MIN_VALUE, 2), -12);
        due.is("watchers from 8", x.watchers(0, 1, 8, 1), -12);
        due.is("count(0)", x.count(0), 0);
        due.is("watchers of none", x.watchers(0, 1, 0, 0), 0);
        due.is("two of three", x.watchers(0, 1, 0, 3), 2);
        due.is("told(1, 0)", x.told(1, 0), 2);
        due.is("told(1, 1)", x.told(1, 1), 201);
        due.is("told(1, 2)", x.told(1, 2), 1);
        due.is("told(1, 3)", x.told(1, 3), 9);
        due.is("the fourth is outside", x.watchers(0, 1, 0, 4), -12);
        due.is("what stood ahead came", x.count(0), 4);
        lay(x, 2, 2, 0, 0, 1, 0, 1, 1, 0, 2, 1, 0, 3, 1, 0, 4, 1, 0, 5, 1, 0, 6, 1, 0, 7, 1, 0, 8, 1);
        due.is("those without room are left out", x.watchers(2, 2, 3, 8), 6);
        due.is("count(0)", x.count(0), 10);
        due.is("told(4, 1)", x.told(4, 1), 1);
        due.is("a place outside, though none has room", x.watchers(2, 2, 3, 10), -12);
    }

    private static void promise29Taken() {
        SkyWatchers x = with(0, 0, 11, 1, 0, 21, 2, 0, 31, 3, 0, 41, 4, 0, 51, 5, 0, 61);
        due.is("taken(0, -1)", x.taken(0, -1), BAD);
        due.is("taken(0, 6)", x.taken(0, 6), BAD);
        due.is("taken(6, 6)", x.taken(6, 6), BAD);
        due.is("taken(-1, 0)", x.taken(-1, 0), -11);
        due.is("taken(6, 0)", x.taken(6, 0), -11);
        boolean[][] under = {
            {true, false, false, false, false, false}, {true, true, false, false, false, false},
            {true, false, true, false, false, false}, {true, true, false, true, false, false},
            {true, false, true, false, true, false}, {true, false, true, false, false, true}};
        for (int i = 0; i < 6; i++) {
            for (int k = 0; k < 6; k++) {
                due.is("taken(" + i + ", " + k + ")", x.taken(i, k), under[i][k] ? i + 1 : -13);
            }
        }
    }
}
