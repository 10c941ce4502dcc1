/** The bounds of a FIND, of FAKES and of how it is PARTED; promises 11 to 15. */
public final class FindBoundsTest {
    private static final int NONE = SkyWatchers.NONE, BAD = SkyWatchers.BAD;
    private static final int LEAST = Integer.MIN_VALUE, GREATEST = Integer.MAX_VALUE;
    private static final Due due = new Due("FindBoundsTest");

    public static void main(String[] args) {
        aFindBeginsInMinute0();
        aMinuteIsAsItBegins();
        groundIsAheadOfOthers();
        othersWhereSeeIs0();
        aHiddenOneIsSeenFromWithin1();
        itDropsIn30AtMost();
        whoHasSeenSeesNoMore();
        whoNeverDropsIsNotCounted();
        afterTheFirstOfThoseCounted();
        comesByFarAndSpeedRoundedUp();
        partedByAsMuchAsThereIs();
        partedAheadOfMinute60();
        partedByWhenTheyCame();
        findTells0To4();
        findIsBadAheadOfNone();
        trailsLeadBackOver0To9();
        edgeHasABitForEach();
        fakesAreNotSeenByTheGround();
        oneThatFakesDroppedInMinute0();
        wastedByNoneAndByAll();
        aloneOfOneAndOfAll();
        aloneMayBeLess();
        isTrueRefusesInItsOrder();
        isTrueOfNoneOneAndTen();
        isTrueTellsTheFirst();
        due.end();
    }

    /** Tests all five answers of find(). */
    private static void find(SkyWatchers x, int square, int watcher, int... wants) {
        for (int what = 0; what < 5; what++) {
            due.is("find(" + square + ", " + watcher + ", " + what + ")",
                    x.find(square, watcher, what), wants[what]);
        }
    }

    private static void findsNothing(SkyWatchers x, int square, int watcher) {
        find(x, square, watcher, NONE, NONE, NONE, NONE, NONE);
    }

    private static SkyWatchers by(String rule, int... watchers) {
        SkyWatchers x = Due.with(watchers);
        due.is("rule", Due.rule(x, rule), 1);
        return x;
    }

    // ---- MINUTE by MINUTE

    private static void aFindBeginsInMinute0() {
        find(Due.with(0, 0, 1), 0, 0, 0, 0, NONE, 20, 0);
        find(Due.with(0, 255, 1), 255, 0, 0, 0, NONE, 20, 0);
        find(Due.with(0, 252, 1), 255, 0, 0, 3, NONE, 20, 0);
        findsNothing(Due.with(0, 251, 1), 255, 0);
        find(by("see minute=0;trust 1;cost 1;", 0, 0, 1), 0, 0, 0, 0, NONE, 20, 0);
        find(by("see minute=1;trust 1;cost 1;", 0, 0, 1), 0, 0, 1, 1, NONE, 20, 0);
        findsNothing(by("see minute<0;trust 1;cost 1;", 0, 0, 1), 0, 0);
        // no one can follow in MINUTE 0
        findsNothing(by("see 1;trust minute=0;cost 1;", 0, 3, 1, 0, 7, 1), 0, 1);
    }

    /** One who dropped is counted from the next MINUTE on, whether its number is less or more. */
    private static void aMinuteIsAsItBegins() {
        SkyWatchers up = Due.with(0, 3, 1, 0, 7, 1, 0, 11, 1, 0, 15, 1);
        SkyWatchers down = Due.with(0, 15, 1, 0, 11, 1, 0, 7, 1, 0, 3, 1);
        for (int i = 0; i < 4; i++) {
            due.is("find(0, " + i + ", 0) up", up.find(0, i, 0), i);
            due.is("find(0, " + i + ", 0) down", down.find(0, 3 - i, 0), i);
            due.is("find(0, " + i + ", 2) up", up.find(0, i, 2), i == 0 ? NONE : i - 1);
            due.is("find(0, " + i + ", 2) down", down.find(0, 3 - i, 2), i == 0 ? NONE : 4 - i);
        }
        // a WARY one needs two that dropped ahead: 0 drops in 0, 1 in 1, so it drops in 2
        due.is("find(0, 2, 0)", Due.with(0, 3, 1, 0, 7, 1, 4, 5, 1).find(0, 2, 0), 2);
        due.is("find(0, 0, 0)", Due.with(4, 5, 1, 0, 7, 1, 0, 3, 1).find(0, 0, 0), 2);
        // what see tells of dropped is as the MINUTE begins, too
        SkyWatchers x = by("see far=3 or dropped=1;trust 0;cost 1;", 0, 3, 1, 0, 2, 1);
        find(x, 0, 0, 0, 3, NONE, 10, 0);
        find(x, 0, 1, 1, 3, NONE, 10, 0);
    }

    private static void groundIsAheadOfOthers() {
        // in MINUTE 1 it sees by both ways
        SkyWatchers x = by("see far=3 or minute=1;trust 1;cost 1;", 0, 3, 1, 0, 2, 1);
        find(x, 0, 1, 1, 3, NONE, 10, 0);
        due.is("edge(0)", x.edge(0), 3);
    }

    private static void othersWhereSeeIs0() {
        // it looks so far, but see is 0 of it: it follows
        SkyWatchers x = by("see far=3;trust 1;cost 1;", 0, 3, 1, 0, 2, 1, 0, 0, 1);
        find(x, 0, 1, 1, 3, 0, 6, 1);
        find(x, 0, 2, 1, 1, 0, 8, 1);
        due.is("edge(0)", x.edge(0), 1);
        findsNothing(by("see far=3;trust 0;cost 1;", 0, 3, 1, 0, 2, 1), 0, 1);
        findsNothing(by("see 0;trust 1;cost 1;", 0, 3, 1, 0, 2, 1), 0, 1);
    }

    private static void aHiddenOneIsSeenFromWithin1() {
        SkyWatchers x = Due.with(0, 0, 1, 0, 1, 1, 0, 2, 1, 1, 3, 91, 3, 17, 91, 3, 18, 91);
        due.is("edge(0)", x.edge(0), 63);
        x.hide(0, 1);
        due.is("edge(0): hidden", x.edge(0), 1 + 2 + 16);
        find(x, 0, 2, 1, 3, 0, x.find(0, 2, 3), 1);
        due.is("edge(1): beside a hidden one", x.edge(1), 63);
        // DEAD at a HIDDEN square are missed by who hangs 2 away
        SkyWatchers y = Due.with(0, 2, 1);
        y.dead(0, 9);
        due.is("found(2)", y.found(2), 0);
        y.hide(0, 1);
        due.is("found(2)", y.found(2), 9);
        y.hang(0, 1);
        due.is("found(2)", y.found(2), 0);
    }

    // ---- DROPS SLOW MINUTES later, if that is 30 at most, else never

    private static void itDropsIn30AtMost() {
        for (int minute : new int[] {0, 1, 27, 28, 29, 30, 31}) {
            SkyWatchers x = by("see minute=" + minute + ";trust 1;cost 1;", 0, 0, 1, 5, 4, 9, 2, 1, 3);
            due.is("edge(0) in " + minute, x.edge(0), minute <= 30 ? 1 : 0);
            due.is("find(0, 0, 0) in " + minute, x.find(0, 0, 0), minute <= 30 ? minute : NONE);
            due.is("find(0, 1, 0) behind " + minute, x.find(0, 1, 0), minute <= 27 ? minute + 3 : NONE);
            due.is("find(0, 2, 0) behind " + minute, x.find(0, 2, 0), minute <= 29 ? minute + 1 : NONE);
        }
        // the latest that one can come: dropped in 30, 15 far, 1 a minute
        SkyWatchers y = by("see minute=27;trust 1;cost 1;", 0, 0, 1, 5, 255, 91);
        y.meat(99);
        find(y, 0, 1, 30, 45, 0, 15, 1);
    }

    private static void whoHasSeenSeesNoMore() {
        // LAZY one follows in 1 after 0, and drops in 3, though by then others would be first
        SkyWatchers x = by("see far=3 or far=1 and minute=2;trust minute<2;cost 1;", 0, 3, 1, 5, 5, 1, 0, 1, 1);
        find(x, 0, 1, 3, 8, 0, x.find(0, 1, 3), 1);
        // it has SEEN in 29 and never drops, though in 30 it could see again
        SkyWatchers y = by("see minute=28;trust 28<minute;cost 1;", 0, 0, 1, 5, 1, 1);
        findsNothing(y, 0, 1);
        // one who sees late by the ground is told when it first did
        SkyWatchers z = by("see 4<minute;trust 1;cost 1;", 0, 0, 1);
        find(z, 0, 0, 5, 5, NONE, 20, 0);
    }

    private static void whoNeverDropsIsNotCounted() {
        // 1 has SEEN in 29, but never drops: 2, who sees 1 alone, follows no one
        SkyWatchers x = by("see minute=28;trust 1;cost 1;", 0, 0, 1, 5, 8, 1, 0, 12, 1);
        findsNothing(x, 0, 1);
        findsNothing(x, 0, 2);
        due.is("found(2) without DEAD", x.found(2), 0);
        // in 27 1 drops in 30; 2 could see that in 31
        SkyWatchers y = by("see minute=27;trust 1;cost 1;", 0, 0, 1, 5, 8, 1, 0, 12, 1);
        find(y, 0, 1, 30, 38, 0, y.find(0, 1, 3), 1);
        findsNothing(y, 0, 2);
        SkyWatchers z = by("see minute=26;trust 1;cost 1;", 0, 0, 1, 5, 8, 1, 0, 12, 1);
        find(z, 0, 2, 30, 42, 1, z.find(0, 2, 3), 2);
    }

    private static void afterTheFirstOfThoseCounted() {
        // 2, 1, 0 drop in 0, 1, 1; 3 sees them all in 2
        SkyWatchers x = by("see far=2;trust minute=1 and far<9 or minute=2;cost 1;",
                0, 3, 1, 0, 4, 1, 0, 2, 1, 2, 9, 41);
        due.is("find(0, 3, 2): the first, though its number is more", x.find(0, 3, 2), 2);
        due.is("find(0, 3, 0)", x.find(0, 3, 0), 2);
        // out of its sight, of the two that dropped in 1 it is the least
        x.hang(2, 18);
        x.hang(3, 11);
        due.is("find(0, 3, 2)", x.find(0, 3, 2), 0);
        x.hang(3, 12);
        due.is("find(0, 3, 2): it sees 1 alone", x.find(0, 3, 2), 1);
        // of all ten the least and the last
        SkyWatchers y = new SkyWatchers();
        for (int i = 0; i < 10; i++) {
            y.watcher(i == 4 ? 2 : 0, i == 4 ? 7 : 3, 1);
        }
        due.is("find(0, 4, 2)", y.find(0, 4, 2), 0);
        for (int i = 0; i < 9; i++) {
            y.hang(i == 4 ? 9 : i, i == 4 ? 3 : 255);
        }
        y.hang(4, 7);
        due.is("find(0, 4, 2)", y.find(0, 4, 2), 9);
    }

    // ---- COMES: how FAR it is by SPEED, rounded up

    private static void comesByFarAndSpeedRoundedUp() {
        for (int speed = 1; speed <= 9; speed++) {
            for (int away = 0; away <= 15; away++) {
                int minutes = 0;
                for (int left = away; left > 0; left -= speed) {
                    minutes++;
                }
                String name = "FAR " + away + ", SPEED " + speed;
                SkyWatchers x = Due.with(3, 16 * away, 90 + speed, 2, 16 * away, 90 + speed);
                due.is("find(0, 0, 1) " + name, x.find(0, 0, 1), away <= 14 ? minutes : NONE);
                due.is("find(0, 1, 1) " + name, x.find(0, 1, 1), away <= 14 ? 1 + minutes : NONE);
                SkyWatchers y = Due.with(0, 255, speed, 5, 255 - 17 * away, 90 + speed);
                due.is("find(255, 1, 1) " + name, y.find(255, 1, 1), 3 + minutes);
            }
        }
    }

    // ---- PARTED

    private static void partedByAsMuchAsThereIs() {
        for (int many = 1; many <= 10; many++) {
            SkyWatchers x = new SkyWatchers();
            for (int i = 0; i < many; i++) {
                x.watcher(i % 2, 136, 1 + i % 9);
            }
            for (int meat : new int[] {0, 1, 2, 9, 10, 11, 20, 59, 60, 61, 98, 99}) {
                x.meat(meat);
                for (int i = 0; i < many; i++) {
                    // each has one more where the last round ends behind it
                    int share = Math.min(60, meat / many + (i < meat % many ? 1 : 0));
                    due.is("SHARE of " + i + " of " + many + ", MEAT " + meat, x.find(136, i, 3), share);
                }
            }
        }
        SkyWatchers ten = new SkyWatchers();
        for (int i = 0; i < 10; i++) {
            ten.watcher(0, 136, 1);
        }
        ten.meat(99);
        for (int i = 0; i < 10; i++) {
            due.is("SHARE of " + i + " of ten, MEAT 99", ten.find(136, i, 3), i == 9 ? 9 : 10);
        }
    }

    private static void partedAheadOfMinute60() {
        SkyWatchers x = Due.with(3, 0, 91);
        x.meat(99);
        for (int away = 0; away <= 14; away++) {
            due.is("SHARE of one who comes in " + away, x.find(away, 0, 3), 60 - away);
        }
        for (int meat : new int[] {61, 60, 59}) {
            x.meat(meat);
            due.is("SHARE of MEAT " + meat, x.find(0, 0, 3), Math.min(60, meat));
            due.is("SHARE of MEAT " + meat + " from 1 on", x.find(1, 0, 3), 59);
        }
        // who comes in 45 has 15, the first of two of like ones included
        SkyWatchers y = by("see minute=27;trust 1;cost 1;", 0, 0, 1, 5, 255, 91);
        y.meat(99);
        due.is("SHARE", y.find(0, 1, 3), 15);
        due.is("SHARE", y.find(0, 0, 3), 33);
        y.meat(15 + 33 - 1);
        due.is("SHARE of the second, who is left without in the last MINUTE", y.find(0, 1, 3), 14);
        due.is("SHARE", y.find(0, 0, 3), 33);
    }

    private static void partedByWhenTheyCame() {
        // they come in 2, 1, 2, 0
        SkyWatchers x = Due.with(0, 2, 1, 0, 1, 1, 0, 32, 1, 0, 0, 1);
        int[][] shares = {{0, 0, 0, 0, 0}, {1, 0, 0, 0, 1}, {2, 0, 0, 0, 2}, {3, 0, 1, 0, 2}, {4, 0, 1, 0, 3},
            {5, 0, 2, 0, 3}, {6, 1, 2, 0, 3}, {7, 1, 2, 1, 3}, {8, 1, 2, 1, 4}, {9, 1, 3, 1, 4}};
        for (int[] s : shares) {
            x.meat(s[0]);
            for (int i = 0; i < 4; i++) {
                due.is("SHARE of " + i + ", MEAT " + s[0], x.find(0, i, 3), s[1 + i]);
            }
        }
        // who never drops has none, and no share where it hangs itself
        SkyWatchers y = Due.with(0, 2, 1, 2, 255, 1);
        y.meat(99);
        due.is("SHARE", y.find(2, 0, 3), 60);
        due.is("SHARE of one who never drops", y.find(2, 1, 3), NONE);
    }

    // ---- promise 11

    private static void findTells0To4() {
        find(Due.with(3, 0, 92), 3, 0, 0, 2, NONE, 20, 0);
        for (int what : new int[] {LEAST, -256, -2, -1, 5, 6, 256, 65536, GREATEST}) {
            Still.refused(due, "find(136, 0, " + what + ")", x -> x.find(136, 0, what), BAD);
        }
    }

    private static void findIsBadAheadOfNone() {
        // none drops there: 0 .. 4 tell NONE, all else is BAD
        SkyWatchers x = Due.with(2, 0, 1);
        findsNothing(x, 0, 0);
        findsNothing(x, 255, 0);
        int[][] bad = {{0, 0, 5}, {0, 0, -1}, {0, 1, 0}, {0, -1, 0}, {256, 0, 0}, {-1, 0, 0}, {0, 1, 5},
            {256, 1, 5}, {LEAST, LEAST, LEAST}, {GREATEST, GREATEST, GREATEST}};
        for (int[] b : bad) {
            due.is("find(" + b[0] + ", " + b[1] + ", " + b[2] + ")", x.find(b[0], b[1], b[2]), BAD);
            due.is("find of a new one", new SkyWatchers().find(b[0], b[1], b[2]), BAD);
        }
        due.is("find(0, 0, 0) of a new one", new SkyWatchers().find(0, 0, 0), BAD);
    }

    private static void trailsLeadBackOver0To9() {
        // each sees the one ahead alone: KEEN ones gaze 2
        int[] squares = {0, 2, 4, 6, 8, 10, 12, 14, 47, 79};
        SkyWatchers up = new SkyWatchers();
        SkyWatchers down = new SkyWatchers();
        for (int i = 0; i < 10; i++) {
            up.watcher(3, squares[i], 9);
            down.watcher(3, squares[9 - i], 9);
        }
        Due.rule(up, "see far=0;trust 1;cost 1;");
        Due.rule(down, "see far=0;trust 1;cost 1;");
        for (int i = 0; i < 10; i++) {
            due.is("TRAIL from " + i, up.find(0, i, 4), i);
            due.is("AFTER whom " + i, up.find(0, i, 2), i - 1);
            due.is("MINUTE of " + i, up.find(0, i, 0), i);
            due.is("TRAIL from " + (9 - i), down.find(0, 9 - i, 4), i);
            due.is("AFTER whom " + (9 - i), down.find(0, 9 - i, 2), i == 0 ? NONE : 10 - i);
        }
        due.is("wasted(0): the first leads all", up.wasted(0), 9);
        due.is("alone(0, 0): without the first there is none", up.alone(0, 0), up.find(0, 0, 3) - 20);
        up.hang(5, 255);
        due.is("TRAIL from 4", up.find(0, 4, 4), 4);
        due.is("TRAIL from 6: it is cut", up.find(0, 6, 4), NONE);
    }

    // ---- promise 12

    private static void edgeHasABitForEach() {
        SkyWatchers x = new SkyWatchers();
        due.is("edge(0) of none", x.edge(0), 0);
        due.is("edge(255) of none", x.edge(255), 0);
        for (int i = 0; i < 10; i++) {
            x.watcher(0, 136, 1);
            due.is("edge(136) of " + (i + 1), x.edge(136), (2 << i) - 1);
            due.is("edge(140) of " + (i + 1), x.edge(140), 0);
        }
        for (int i = 0; i < 10; i++) {
            x.hang(i, 140);
            due.is("edge(143): " + i + " alone", x.edge(143), 1 << i);
            due.is("edge(133): all but " + i, x.edge(133), 1023 - (1 << i));
            x.hang(i, 136);
        }
        for (int square : new int[] {LEAST, -1, 256, GREATEST}) {
            due.is("edge(" + square + ") of none", new SkyWatchers().edge(square), BAD);
        }
    }

    // ---- FAKES: promise 13

    private static void fakesAreNotSeenByTheGround() {
        // 1 hangs where it is faked, but gazes only 2
        SkyWatchers x = Due.with(0, 0, 1, 3, 3, 91);
        due.is("edge(0)", x.edge(0), 3);
        due.is("wasted(0): 3 far, nothing lies there", x.wasted(0), 0);
        x.hang(1, 2);
        due.is("wasted(0): 2 far", x.wasted(0), 1);
        SkyWatchers y = by("see 1;trust 0;cost 1;", 0, 0, 1, 0, 0, 1);
        due.is("wasted(0)", y.wasted(0), 0);
        due.is("wasted(1)", y.wasted(1), 0);
        due.is("edge(0): what isn't faked is seen", y.edge(0), 3);
    }

    private static void oneThatFakesDroppedInMinute0() {
        // seen in 1 and not in 0, though LAZY ones are slow and SKY ones don't see the ground
        for (int kind = 0; kind < 6; kind++) {
            SkyWatchers x = by("see 0;trust minute=1 and dropped=1;cost 1;", kind, 0, 1, 0, 4, 1);
            due.is("wasted(0) of kind " + kind, x.wasted(0), 1);
            SkyWatchers y = by("see 0;trust minute=0;cost 1;", kind, 0, 1, 0, 4, 1);
            due.is("wasted(0) of kind " + kind, y.wasted(0), 0);
        }
        // SLOW ones drop in 30 at most after a FAKE, too
        for (int minute = 27; minute <= 31; minute++) {
            SkyWatchers x = by("see 0;trust minute=" + minute + ";cost 1;", 0, 0, 1, 5, 0, 1, 0, 0, 1);
            due.is("wasted(0) in " + minute, x.wasted(0), (minute <= 28 ? 1 : 0) + (minute <= 30 ? 1 : 0));
        }
    }

    private static void wastedByNoneAndByAll() {
        SkyWatchers x = new SkyWatchers();
        due.is("wasted(0) of none", x.wasted(0), BAD);
        for (int i = 0; i < 10; i++) {
            x.watcher(0, 136, 1);
            due.is("wasted(0) of " + (i + 1), x.wasted(0), i);
            due.is("wasted(" + i + ") of " + (i + 1), x.wasted(i), i);
            due.is("wasted(" + (i + 1) + ")", x.wasted(i + 1), BAD);
        }
        x.hide(136, 1);
        due.is("wasted(9) over a hidden square", x.wasted(9), 9);
        x.meat(0);
        due.is("wasted(9) without MEAT", x.wasted(9), 9);
        // 4 far it is seen, 5 far not
        SkyWatchers y = Due.with(0, 0, 1, 0, 4, 1, 0, 64, 1, 0, 80, 1);
        due.is("wasted(0)", y.wasted(0), 3);
        y.hang(2, 85);
        due.is("wasted(0): 80 and 85 are 5 far", y.wasted(0), 1);
    }

    // ---- ALONE: promise 14

    private static void aloneOfOneAndOfAll() {
        SkyWatchers one = Due.with(0, 0, 1);
        due.is("alone(0, 0) of one alone", one.alone(0, 0), 0);
        due.is("alone(0, 1) of one alone", one.alone(0, 1), BAD);
        due.is("alone(0, 0) of none", new SkyWatchers().alone(0, 0), BAD);
        SkyWatchers ten = new SkyWatchers();
        for (int i = 0; i < 10; i++) {
            ten.watcher(0, 0, 1);
        }
        for (int i = 0; i < 10; i++) {
            due.is("alone(0, " + i + ") of ten", ten.alone(0, i), 2);
            due.is("alone(255, " + i + ") of ten", ten.alone(255, i), 0);
        }
        ten.meat(0);
        due.is("alone(0, 0) without MEAT", ten.alone(0, 0), 0);
        ten.meat(99);
        due.is("alone(0, 0) with MEAT 99", ten.alone(0, 0), 10);
        due.is("alone(0, 9) with MEAT 99", ten.alone(0, 9), 9);
        ten.meat(1);
        due.is("alone(0, 0) with MEAT 1", ten.alone(0, 0), 1);
        due.is("alone(0, 9) with MEAT 1", ten.alone(0, 9), 0);
        SkyWatchers two = Due.with(0, 0, 1, 0, 0, 1);
        two.meat(60);
        due.is("alone(0, 0): 30 and 30", two.alone(0, 0), 30);
        two.meat(99);
        due.is("alone(0, 0): MINUTES end", two.alone(0, 0), 60 - 49);
        due.is("alone(0, 1)", two.alone(0, 1), 60 - 50);
    }

    private static void aloneMayBeLess() {
        // without the one who sees the ground no one drops
        SkyWatchers x = Due.with(0, 0, 1, 2, 1, 1, 2, 2, 1);
        int others = x.find(0, 1, 3) + x.find(0, 2, 3);
        due.is("alone(0, 0)", x.alone(0, 0), -others);
        due.is("SHARES of others", others, 6 + 5);
        due.is("find(0, 0, 3): it is there still", x.find(0, 0, 3), 9);
        due.is("count(0)", x.count(0), 3);
    }

    // ---- TRUE: promise 15

    private static void isTrueRefusesInItsOrder() {
        int[] noSheets = {LEAST, -65536, -4, -1, 4, 5, 256, 65536, GREATEST};
        for (int sheet : noSheets) {
            Still.refused(due, "isTrue(0, " + sheet + ")", x -> x.isTrue(0, sheet), BAD);
        }
        for (int square : new int[] {LEAST, -1, 256, GREATEST}) {
            // a square that is none ahead of a SHEET that is missing
            Still.refused(due, "isTrue(" + square + ", 3)", x -> x.isTrue(square, 3), BAD);
            Still.refused(due, "isTrue(" + square + ", 4)", x -> x.isTrue(square, 4), BAD);
        }
        Still.refused(due, "isTrue(0, 3): missing", x -> x.isTrue(0, 3), -11);
        Still.refused(due, "isTrue(255, 0): six", x -> x.isTrue(255, 0), BAD);
        Still.refused(due, "isTrue(0, 1): three", x -> x.isTrue(0, 1), BAD);
        Still.refused(due, "isTrue(0, 2): four", x -> x.isTrue(0, 2), 0);
        // missing ahead of a size that can't be: there are no WATCHERS, as there are no items
        due.is("isTrue(0, 0) of none", new SkyWatchers().isTrue(0, 0), -11);
    }

    private static void isTrueOfNoneOneAndTen() {
        SkyWatchers x = new SkyWatchers();
        for (int n = 0; n <= 10; n++) {
            for (int size : new int[] {0, 1, 2, 9, 10, 11, 40, n - 1, n, n + 1}) {
                if (size >= 0) {
                    x.sheet(0, size % 3, size);
                    due.is("isTrue(136, 0): " + size + " for " + n, x.isTrue(136, 0), size == n ? NONE : BAD);
                }
            }
            x.watcher(0, 136, 1);
        }
    }

    private static void isTrueTellsTheFirst() {
        SkyWatchers x = new SkyWatchers();
        for (int i = 0; i < 10; i++) {
            x.watcher(0, i % 2 == 0 ? 136 : 0, 1);
        }
        for (int sort = 0; sort < 3; sort++) {
            Still.lay(x, sort, sort, 0, -1, 0, -1, 0, -1, 0, -1, 0, -1);
            due.is("isTrue of sort " + sort, x.isTrue(136, sort), NONE);
            due.is("isTrue of sort " + sort + ": another square", x.isTrue(0, sort), 0);
            for (int i = 9; i >= 0; i--) {
                // what never came is -1 alone, what came in 0 is 0 alone
                x.cell(sort, i, i % 2 == 0 ? -1 : 0);
                due.is("isTrue of sort " + sort, x.isTrue(136, sort), i);
            }
        }
        // what is told is when it came, not when it dropped; the latest is 45
        SkyWatchers y = by("see minute=27;trust 1;cost 1;", 0, 0, 1, 5, 255, 91, 2, 255, 91);
        Still.lay(y, 0, 0, 27, 45, -1);
        due.is("isTrue(0, 0)", y.isTrue(0, 0), NONE);
        Still.lay(y, 0, 0, 27, 30, -1);
        due.is("isTrue(0, 0)", y.isTrue(0, 0), 1);
        Still.lay(y, 0, 0, 27, 45, 31);
        due.is("isTrue(0, 0)", y.isTrue(0, 0), 2);
        // least and greatest
        Still.lay(y, 2, 2, 27, 45, LEAST);
        due.is("isTrue(0, 2)", y.isTrue(0, 2), 2);
        Still.lay(y, 2, 2, 27, GREATEST, GREATEST);
        due.is("isTrue(0, 2)", y.isTrue(0, 2), 1);
        Still.lay(y, 2, 2, 27, 45, GREATEST);
        due.is("isTrue(0, 2)", y.isTrue(0, 2), 2);
    }
}
