/** The bounds of SHEETS and of what the host asks; promises 25 to 29. */
public final class HostBoundsTest {
    private static final int NONE = SkyWatchers.NONE, BAD = SkyWatchers.BAD;
    private static final int MISSING = -11, OUTSIDE = -12, OTHER = -13, BELOW_0 = -14;
    private static final int LEAST = Integer.MIN_VALUE, GREATEST = Integer.MAX_VALUE;
    private static final int[] NO_SHEETS = {LEAST, -65536, -256, -4, -1, 4, 5, 256, 65536, GREATEST};
    private static final int[] NO_SORTS = {LEAST, -256, -3, -2, 3, 4, 256, 65536, GREATEST};
    private static final int[] TOO_MANY = {41, 42, 128, 256, 257, 65536, 65537, GREATEST};
    private static final int[] BELOW = {LEAST, LEAST + 1, -65536, -256, -41, -40, -2, -1};
    private static final Due due = new Due("HostBoundsTest");

    public static void main(String[] args) {
        sheetsAre0To3();
        sheetsAreMissingAtFirst();
        sortsAre0To2();
        rowsHave0To40Items();
        sheetRefusesInItsOrder();
        sheetBecomesMissing();
        sheetBecomesAll0();
        cellTakesPlacesWithin();
        cellRefusesInItsOrder();
        cellKeepsTheLowestBits();
        copyOfNoneOneAndAll();
        copyOutside();
        copyRefusesInItsOrder();
        copyAsTheyWere();
        watchersOfNoneOneAndTen();
        watchersRefusesInItsOrder();
        watchersFromPlacesOutside();
        watchersThreeByThree();
        watchersLeavesOthersOut();
        watchersWhereOnesIsFull();
        takenRefusesInItsOrder();
        takenForItsKindOrOneAbove();
        due.end();
    }

    /** The size of a SHEET: as many of it as can come to itself; or what copy() refuses by. */
    private static int size(SkyWatchers x, int sheet) {
        int answer = x.copy(sheet, 0, sheet, 0, 0);
        for (int n = 1; n <= 41 && answer == n - 1; n++) {
            int next = x.copy(sheet, 0, sheet, 0, n);
            answer = next == n ? n : answer;
        }
        return answer;
    }

    /** Three items of a SHEET from one on must make a WATCHER so. */
    private static void makes(SkyWatchers x, int sheet, int sort, int from, int... wants) {
        int w = x.count(0);
        due.is("watchers(" + sheet + ", " + sort + ", " + from + ", 1)", x.watchers(sheet, sort, from, 1), 1);
        due.is("told(" + w + ", 0)", x.told(w, 0), wants[0]);
        due.is("told(" + w + ", 1)", x.told(w, 1), wants[1]);
        due.is("NUMBER and SPEED of " + w, 10 * x.told(w, 2) + x.told(w, 3), wants[2]);
    }

    // ---- SHEETS 0 .. 3: promise 25

    private static void sheetsAre0To3() {
        SkyWatchers x = Due.with(0, 136, 1);
        for (int sheet = 0; sheet < 4; sheet++) {
            due.is("sheet(" + sheet + ", 2, 3)", x.sheet(sheet, 2, 3), 1);
            due.is("cell(" + sheet + ", 2, 7)", x.cell(sheet, 2, sheet + 1), 1);
            due.is("copy", x.copy(sheet, 0, sheet, 0, 3), 3);
            due.is("isTrue: three for one", x.isTrue(136, sheet), BAD);
        }
        // each is a row of its own
        for (int sheet = 0; sheet < 4; sheet++) {
            makes(x, sheet, 2, 0, 0, 0, sheet + 1);
        }
        for (int s : NO_SHEETS) {
            Still.refused(due, "sheet(" + s + ", 0, 1)", y -> y.sheet(s, 0, 1), BAD);
            Still.refused(due, "sheet(" + s + ", -1, 1)", y -> y.sheet(s, -1, 1), BAD);
            Still.refused(due, "cell(" + s + ", 0, 0)", y -> y.cell(s, 0, 9), BAD);
            Still.refused(due, "copy(" + s + ", ..)", y -> y.copy(s, 0, 0, 0, 1), BAD);
            Still.refused(due, "copy(.., " + s + ")", y -> y.copy(0, 0, s, 0, 1), BAD);
            Still.refused(due, "watchers(" + s + ", ..)", y -> y.watchers(s, 0, 0, 1), BAD);
            Still.refused(due, "isTrue(0, " + s + ")", y -> y.isTrue(0, s), BAD);
        }
    }

    private static void sheetsAreMissingAtFirst() {
        for (int sheet = 0; sheet < 4; sheet++) {
            int s = sheet;
            SkyWatchers x = new SkyWatchers();
            x.sheet((s + 1) % 4, 0, 3);
            due.is("isTrue", x.isTrue(0, s), MISSING);
            due.is("cell", x.cell(s, 0, 0), MISSING);
            due.is("copy from it", x.copy(s, 0, (s + 1) % 4, 0, 0), MISSING);
            due.is("copy to it", x.copy((s + 1) % 4, 0, s, 0, 0), MISSING);
            due.is("copy within it", x.copy(s, 0, s, 0, 0), MISSING);
            for (int sort = 0; sort < 3; sort++) {
                due.is("watchers", x.watchers(s, sort, 0, 0), MISSING);
            }
        }
    }

    private static void sortsAre0To2() {
        for (int sort = 0; sort < 3; sort++) {
            SkyWatchers x = new SkyWatchers();
            due.is("sheet(1, " + sort + ", 3)", x.sheet(1, sort, 3), 1);
            for (int other = 0; other < 3; other++) {
                due.is("watchers of sort " + other, x.watchers(1, other, 0, 1), other == sort ? 0 : OTHER);
            }
        }
        for (int sort : NO_SORTS) {
            Still.refused(due, "sheet(0, " + sort + ", 1)", x -> x.sheet(0, sort, 1), BAD);
            Still.refused(due, "sheet(3, " + sort + ", 1)", x -> x.sheet(3, sort, 1), BAD);
            Still.refused(due, "watchers(0, " + sort + ", 0, 1)", x -> x.watchers(0, sort, 0, 1), BAD);
        }
        Still.refused(due, "watchers(3, -1, 0, 1)", x -> x.watchers(3, -1, 0, 1), BAD);
    }

    private static void rowsHave0To40Items() {
        for (int sort = 0; sort < 3; sort++) {
            for (int n : new int[] {0, 1, 2, 39, 40}) {
                SkyWatchers x = new SkyWatchers();
                due.is("sheet(3, " + sort + ", " + n + ")", x.sheet(3, sort, n), 1);
                due.is("its size", size(x, 3), n);
            }
            int of = sort;
            for (int n : TOO_MANY) {
                Still.refused(due, "sheet(0, " + sort + ", " + n + ")", x -> x.sheet(0, of, n), BAD);
                Still.refused(due, "sheet(3, " + sort + ", " + n + ")", x -> x.sheet(3, of, n), BAD);
            }
            for (int n : BELOW) {
                Still.refused(due, "sheet(1, " + sort + ", " + n + ")", x -> x.sheet(1, of, n), BELOW_0);
                Still.refused(due, "sheet(3, " + sort + ", " + n + ")", x -> x.sheet(3, of, n), BELOW_0);
            }
        }
    }

    private static void sheetRefusesInItsOrder() {
        for (int n : new int[] {LEAST, -1, 0, 41, GREATEST}) {
            Still.refused(due, "sheet(4, 0, " + n + ")", x -> x.sheet(4, 0, n), BAD);
            Still.refused(due, "sheet(-1, 3, " + n + ")", x -> x.sheet(-1, 3, n), BAD);
            Still.refused(due, "sheet(0, 3, " + n + ")", x -> x.sheet(0, 3, n), BAD);
            Still.refused(due, "sheet(0, -2, " + n + ")", x -> x.sheet(0, -2, n), BAD);
            Still.refused(due, "sheet(4, -1, " + n + ")", x -> x.sheet(4, -1, n), BAD);
        }
    }

    /** Sort -1: n does not matter. */
    private static void sheetBecomesMissing() {
        for (int n : new int[] {LEAST, -14, -1, 0, 1, 40, 41, GREATEST}) {
            SkyWatchers x = new SkyWatchers();
            Still.lived(x);
            due.is("sheet(3, -1, " + n + "): it is missing", x.sheet(3, -1, n), 1);
            Still.same(due, Still::lived, "where a missing one became missing", x);
            SkyWatchers y = new SkyWatchers();
            for (int sort = 0; sort < 3; sort++) {
                y.sheet(sort, sort, 5);
                due.is("sheet(" + sort + ", -1, " + n + ")", y.sheet(sort, -1, n), 1);
                due.is("cell", y.cell(sort, 0, 0), MISSING);
                due.is("its size", size(y, sort), MISSING);
                due.is("watchers", y.watchers(sort, sort, 0, 1), MISSING);
                due.is("watchers", y.watchers(sort, (sort + 1) % 3, 0, 1), MISSING);
            }
        }
    }

    private static void sheetBecomesAll0() {
        SkyWatchers x = Due.with(0, 136, 1);
        for (int sort = 0; sort < 3; sort++) {
            for (int other = 0; other < 3; other++) {
                x.sheet(0, sort, 40);
                for (int i = 0; i < 40; i += 13) {
                    x.cell(0, i, -1);
                }
                due.is("sheet", x.sheet(0, other, 1), 1);
                due.is("isTrue: 0 of sort " + other, x.isTrue(136, 0), NONE);
                due.is("cell: it is shorter", x.cell(0, 1, 1), OUTSIDE);
                due.is("sheet", x.sheet(0, other, 40), 1);
                // three 0 are no WATCHER, with a SPEED they are
                for (int from = 0; from < 39; from += 3) {
                    due.is("watchers: all 0", x.watchers(0, other, from, 1), 0);
                }
            }
        }
        x.sheet(0, 2, 40);
        for (int from = 0; from < 27; from += 3) {
            x.cell(0, from + 2, 11);
            makes(x, 0, 2, from, 0, 0, 11);
        }
    }

    // ---- promise 26

    private static void cellTakesPlacesWithin() {
        for (int sort = 0; sort < 3; sort++) {
            for (int n : new int[] {0, 1, 2, 39, 40}) {
                SkyWatchers x = new SkyWatchers();
                x.sheet(2, sort, n);
                for (int i : new int[] {LEAST, -65536, -256, -40, -1, 0, 1, 2, 38, 39, 40, 41, 256, 65536, GREATEST}) {
                    due.is("cell(2, " + i + ", 5) of " + n, x.cell(2, i, 5), i >= 0 && i < n ? 1 : OUTSIDE);
                }
            }
        }
        for (int i : new int[] {LEAST, -65536, -256, -40, -1, 6, 7, 39, 40, 256, 65536, GREATEST}) {
            Still.refused(due, "cell(0, " + i + ", 9)", x -> x.cell(0, i, 9), OUTSIDE);
            Still.refused(due, "cell(1, " + i + ", 9)", x -> x.cell(1, i < 6 ? i : i - 3, 9), OUTSIDE);
            Still.refused(due, "cell(2, " + i + ", 9)", x -> x.cell(2, i < 6 ? i : i - 2, 9), OUTSIDE);
        }
    }

    private static void cellRefusesInItsOrder() {
        for (int i : new int[] {LEAST, -1, 0, 40, GREATEST}) {
            Still.refused(due, "cell(4, " + i + ", 0)", x -> x.cell(4, i, 9), BAD);
            Still.refused(due, "cell(-1, " + i + ", 0)", x -> x.cell(-1, i, 9), BAD);
            Still.refused(due, "cell(3, " + i + ", 0)", x -> x.cell(3, i, 9), MISSING);
        }
    }

    /** What is left of v in 8 or 16 bits, or all of it. */
    private static int kept(int sort, int v) {
        if (sort == 2) {
            return v;
        }
        int all = sort == 0 ? 256 : 65536;
        int rest = Math.floorMod(v, all);
        return rest < all / 2 ? rest : rest - all;
    }

    private static void cellKeepsTheLowestBits() {
        int[] values = {LEAST, LEAST + 1, LEAST + 45, -65537, -65536, -32769, -32768, -257, -256, -129, -128, -2,
            -1, 0, 1, 45, 46, 127, 128, 173, 255, 256, 301, 32767, 32768, 32813, 65535, 65536, 65581, 131071,
            GREATEST - 1, GREATEST};
        // of three WATCHERS one never comes, one comes in 0 and one in 45
        SkyWatchers x = Due.with(2, 0, 1, 0, 255, 1, 5, 15, 91);
        Due.rule(x, "see minute=27 or kind=1;trust kind=5;cost 1;");
        int[] comes = {-1, 27, 45};
        for (int sort = 0; sort < 3; sort++) {
            Still.lay(x, sort, sort, comes);
            for (int v : values) {
                for (int i = 0; i < 3; i++) {
                    due.is("cell(" + sort + ", " + i + ", " + v + ")", x.cell(sort, i, v), 1);
                    due.is("isTrue: item " + i + " of sort " + sort + " is " + v, x.isTrue(255, sort),
                            kept(sort, v) == comes[i] ? NONE : i);
                    x.cell(sort, i, comes[i]);
                }
                if (v == 127) {
                    x = Due.with(2, 0, 1, 0, 255, 1, 5, 15, 91);
                    Due.rule(x, "see minute=27 or kind=1;trust kind=5;cost 1;");
                    Still.lay(x, sort, sort, comes);
                }
            }
        }
        // as WATCHERS: squares of bytes end at 127, of shorts and ints at 255
        int[][] squares = {{0, 127, 1}, {0, 128, 0}, {0, 255, 0}, {0, 256 + 127, 1}, {0, -1, 0}, {1, 128, 1}, {1, 255, 1},
            {1, 256, 0}, {1, 65536 + 255, 1}, {1, 32768, 0}, {1, -1, 0}, {2, 255, 1}, {2, 256, 0}, {2, 65536, 0}, {2, -1, 0},
            {2, LEAST, 0}, {2, GREATEST, 0}};
        for (int[] s : squares) {
            SkyWatchers y = new SkyWatchers();
            Still.lay(y, 3, s[0], 0, s[1], 9);
            due.is("watchers of sort " + s[0] + " over " + s[1], y.watchers(3, s[0], 0, 1), s[2]);
            due.is("told(0, 1)", y.told(0, 1), s[2] == 1 ? kept(s[0], s[1]) : -5);
        }
    }

    // ---- promise 27

    private static void copyOfNoneOneAndAll() {
        for (int sort = 0; sort < 3; sort++) {
            SkyWatchers x = new SkyWatchers();
            Still.lay(x, 0, sort, 1, 2, 3, 4, 5, 6);
            x.sheet(1, sort, 9);
            for (int i = 0; i <= 6; i++) {
                due.is("copy of none", x.copy(0, i, 1, 9, 0), 0);
                due.is("copy of none", x.copy(0, i, 1, 0, 0), 0);
            }
            due.is("watchers: nothing came", x.watchers(1, sort, 0, 3), 0);
            due.is("copy of one, the last to the last", x.copy(0, 5, 1, 8, 1), 1);
            makes(x, 1, sort, 6, 0, 0, 6);
            due.is("copy of all", x.copy(0, 0, 1, 3, 6), 6);
            makes(x, 1, sort, 3, 1, 2, 3);
            makes(x, 1, sort, 6, 4, 5, 6);
            due.is("watchers: ahead of them it is as it was", x.watchers(1, sort, 0, 1), 0);
            makes(x, 0, sort, 0, 1, 2, 3);
            x.sheet(2, sort, 40);
            x.sheet(3, sort, 40);
            x.cell(2, 39, 7);
            due.is("copy of 40", x.copy(2, 0, 3, 0, 40), 40);
            makes(x, 3, sort, 37, 0, 0, 7);
            x.sheet(2, sort, 0);
            due.is("copy of none out of none", x.copy(2, 0, 3, 0, 0), 0);
            due.is("copy of none to none", x.copy(3, 40, 2, 0, 0), 0);
            due.is("copy of one out of none", x.copy(2, 0, 3, 0, 1), OUTSIDE);
            due.is("copy of one to none", x.copy(3, 0, 2, 0, 1), OUTSIDE);
        }
    }

    /** lived() with a SHEET 3 of three bytes: 0 has six. */
    private static void twoOfBytes(SkyWatchers x) {
        Still.lived(x);
        Still.lay(x, 3, 0, 3, 111, 47);
    }

    private static void copyOutside() {
        int[][] outside = {{0, 0, -1}, {3, 1, -1}, {6, 3, -1}, {0, 0, 4}, {0, 1, 3}, {0, 2, 2}, {0, 3, 1}, {0, 4, 0},
            {0, -1, 0}, {0, -1, 1}, {0, -1, 3}, {-1, 0, 0}, {-1, 0, 1}, {-1, 0, 3}, {4, 0, 3}, {5, 0, 2}, {6, 0, 1},
            {7, 0, 0}, {7, 0, 1}, {-3, -3, 3}, {3, 3, 3}, {0, 0, 7}, {0, 0, 40}, {0, 0, GREATEST}, {0, 0, LEAST},
            {1, 1, GREATEST}, {6, 3, GREATEST}, {6, 3, LEAST}, {GREATEST, 0, 0}, {GREATEST, 0, 1}, {LEAST, 0, 0},
            {LEAST, 0, 1}, {0, GREATEST, 0}, {0, GREATEST, 1}, {0, LEAST, 0}, {0, LEAST, 1},
            {GREATEST, GREATEST, GREATEST}, {LEAST, LEAST, LEAST}, {LEAST, LEAST, GREATEST},
            {GREATEST, 0, GREATEST}, {GREATEST, 0, LEAST}, {2, GREATEST - 1, 3}, {GREATEST - 1, 0, 3}};
        for (int[] o : outside) {
            Still.refused(due, HostBoundsTest::twoOfBytes, "copy(0, " + o[0] + ", 3, " + o[1] + ", " + o[2] + ")",
                    x -> x.copy(0, o[0], 3, o[1], o[2]), OUTSIDE);
        }
        int[][] within = {{0, 0, 3}, {3, 0, 3}, {5, 2, 1}, {6, 3, 0}, {0, 3, 0}, {6, 0, 0}, {4, 1, 2}};
        for (int[] w : within) {
            SkyWatchers x = new SkyWatchers();
            twoOfBytes(x);
            due.is("copy(0, " + w[0] + ", 3, " + w[1] + ", " + w[2] + ")", x.copy(0, w[0], 3, w[1], w[2]), w[2]);
        }
    }

    private static void copyRefusesInItsOrder() {
        for (int place : new int[] {LEAST, -1, 0, 41, GREATEST}) {
            // no such SHEET, ahead of missing ones, of unlike sorts, of places outside
            Still.refused(due, "copy of 4", x -> x.copy(4, place, 3, place, place), BAD);
            Still.refused(due, "copy to 4", x -> x.copy(3, place, 4, place, place), BAD);
            Still.refused(due, "copy to -1", x -> x.copy(0, place, -1, place, place), BAD);
            Still.refused(due, "copy of -1 to -1", x -> x.copy(-1, place, -1, place, place), BAD);
            // missing ones, ahead of unlike sorts and of places outside
            Still.refused(due, "copy of a missing one", x -> x.copy(3, place, 0, place, place), MISSING);
            Still.refused(due, "copy to a missing one", x -> x.copy(2, place, 3, place, place), MISSING);
            Still.refused(due, "copy within a missing one", x -> x.copy(3, place, 3, place, place), MISSING);
            // unlike sorts, ahead of places outside; of none, too
            for (int s = 0; s < 3; s++) {
                int from = s;
                Still.refused(due, "copy of unlike sorts", x -> x.copy(from, place, (from + 1) % 3, place, place), OTHER);
                Still.refused(due, "copy of unlike sorts", x -> x.copy(from, place, (from + 2) % 3, place, place), OTHER);
                Still.refused(due, "copy of none of unlike sorts", x -> x.copy(from, 0, (from + 1) % 3, 0, 0), OTHER);
            }
        }
    }

    private static void copyAsTheyWere() {
        for (int sort = 0; sort < 3; sort++) {
            SkyWatchers x = new SkyWatchers();
            Still.lay(x, 0, sort, 1, 2, 3, 4, 5, 6, 0, 0, 0);
            due.is("copy on by one", x.copy(0, 0, 0, 1, 8), 8);
            // 1 1 2 3 4 5 6 0 0
            makes(x, 0, sort, 0, 1, 1, 2);
            makes(x, 0, sort, 3, 3, 4, 5);
            due.is("copy back by two", x.copy(0, 2, 0, 0, 7), 7);
            // 2 3 4 5 6 0 0 0 0
            makes(x, 0, sort, 0, 2, 3, 4);
            makes(x, 0, sort, 2, 4, 5, 6);
            due.is("copy where they are", x.copy(0, 0, 0, 0, 9), 9);
            makes(x, 0, sort, 0, 2, 3, 4);
            // what came is a row's own: a later change of one isn't one of the other
            x.sheet(1, sort, 3);
            due.is("copy", x.copy(0, 0, 1, 0, 3), 3);
            x.cell(0, 0, 0);
            x.cell(1, 1, 0);
            makes(x, 1, sort, 0, 2, 0, 4);
            makes(x, 0, sort, 0, 0, 3, 4);
        }
        // least and greatest go over as they are
        SkyWatchers y = Due.with(2, 0, 1);
        Still.lay(y, 0, 2, LEAST, GREATEST, -1);
        y.sheet(1, 2, 1);
        for (int i = 0; i < 3; i++) {
            due.is("copy", y.copy(0, i, 1, 0, 1), 1);
            due.is("isTrue", y.isTrue(0, 1), i == 2 ? NONE : 0);
        }
    }

    // ---- promise 28

    private static void watchersOfNoneOneAndTen() {
        for (int sort = 0; sort < 3; sort++) {
            for (int n = 0; n <= 10; n++) {
                SkyWatchers x = new SkyWatchers();
                x.sheet(0, sort, 40);
                for (int k = 0; k < 13; k++) {
                    x.cell(0, 3 * k + 1, k);
                    x.cell(0, 3 * k + 2, 10 * (k % 10) + 1);
                }
                due.is("watchers(0, " + sort + ", 6, " + n + ")", x.watchers(0, sort, 6, n), n);
                due.is("count(0)", x.count(0), n);
                for (int k = 0; k < n; k++) {
                    due.is("told(" + k + ", 1)", x.told(k, 1), k + 2);
                    due.is("told(" + k + ", 2)", x.told(k, 2), (k + 2) % 10);
                }
            }
        }
        for (int n : new int[] {LEAST, -256, -10, -1, 11, 12, 256, 65536, GREATEST}) {
            Still.refused(due, "watchers(0, 0, 0, " + n + ")", x -> x.watchers(0, 0, 0, n), BAD);
        }
        // of none nothing is asked that could lie outside
        for (int from : new int[] {0, 1, 5, 6, 40}) {
            Still.refused(due, "watchers of none from " + from, x -> x.watchers(0, 0, from, 0), 0);
        }
        SkyWatchers y = new SkyWatchers();
        y.sheet(0, 2, 0);
        due.is("watchers of none from a row of none", y.watchers(0, 2, 0, 0), 0);
        due.is("watchers of one from a row of none", y.watchers(0, 2, 0, 1), OUTSIDE);
    }

    private static void watchersRefusesInItsOrder() {
        for (int from : new int[] {LEAST, -1, 0, 40, GREATEST}) {
            // no such SHEET, sort, n: ahead of all
            Still.refused(due, "watchers of SHEET 4", x -> x.watchers(4, 0, from, 1), BAD);
            Still.refused(due, "watchers of sort 3", x -> x.watchers(3, 3, from, 1), BAD);
            Still.refused(due, "watchers of sort -1", x -> x.watchers(3, -1, from, 1), BAD);
            Still.refused(due, "watchers of 11 of another sort", x -> x.watchers(0, 1, from, 11), BAD);
            Still.refused(due, "watchers of -1 of another sort", x -> x.watchers(0, 2, from, -1), BAD);
            Still.refused(due, "watchers of 11 of a missing one", x -> x.watchers(3, 1, from, 11), BAD);
            Still.refused(due, "watchers of -1 of a missing one", x -> x.watchers(3, 1, from, -1), BAD);
            // another sort, ahead of places outside; of none, too
            for (int n : new int[] {0, 1, 10}) {
                Still.refused(due, "watchers of bytes as of shorts", x -> x.watchers(0, 1, from, n), OTHER);
                Still.refused(due, "watchers of bytes as of ints", x -> x.watchers(0, 2, from, n), OTHER);
                Still.refused(due, "watchers of shorts as of bytes", x -> x.watchers(1, 0, from, n), OTHER);
                Still.refused(due, "watchers of shorts as of ints", x -> x.watchers(1, 2, from, n), OTHER);
                Still.refused(due, "watchers of ints as of bytes", x -> x.watchers(2, 0, from, n), OTHER);
                Still.refused(due, "watchers of ints as of shorts", x -> x.watchers(2, 1, from, n), OTHER);
                // a missing one, which is of no other sort, ahead of places outside
                for (int s = 0; s < 3; s++) {
                    int sort = s;
                    Still.refused(due, "watchers of a missing one", x -> x.watchers(3, sort, from, n), MISSING);
                }
            }
        }
    }

    private static void watchersFromPlacesOutside() {
        for (int from : new int[] {LEAST, LEAST + 3, -65536, -30, -3, -2, -1, 4, 5, 6, 7, 39, 40, 256, GREATEST - 2,
            GREATEST}) {
            for (int n : new int[] {1, 2, 10}) {
                Still.refused(due, "watchers(0, 0, " + from + ", " + n + ")", x -> x.watchers(0, 0, from, n), OUTSIDE);
            }
        }
        for (int from = 0; from <= 4; from++) {
            SkyWatchers x = new SkyWatchers();
            Still.lay(x, 0, 1, 0, 1, 2, 3, 4, 5);
            due.is("watchers from " + from, x.watchers(0, 1, from, 1), from <= 3 ? 1 : OUTSIDE);
            due.is("count(0)", x.count(0), from <= 3 ? 1 : 0);
        }
    }

    /** A place outside behind some that are none: what stood ahead came. */
    private static void watchersThreeByThree() {
        for (int size = 0; size <= 40; size++) {
            for (int n : new int[] {0, 1, 2, 9, 10}) {
                for (int from : new int[] {0, 1, 2, 10, 11}) {
                    SkyWatchers x = new SkyWatchers();
                    x.sheet(1, 2, size);
                    for (int i = 0; i < size; i++) {
                        x.cell(1, i, 1 + i % 5);
                    }
                    int whole = Math.max(0, size - from) / 3;
                    due.is("watchers from " + from + " of " + size + ", " + n, x.watchers(1, 2, from, n),
                            n <= whole ? n : OUTSIDE);
                    due.is("count(0)", x.count(0), Math.min(n, whole));
                    for (int k = 0; k < Math.min(n, whole); k++) {
                        due.is("told(" + k + ", 0)", x.told(k, 0), 1 + (from + 3 * k) % 5);
                        due.is("told(" + k + ", 1)", x.told(k, 1), 1 + (from + 3 * k + 1) % 5);
                        due.is("told(" + k + ", 3)", x.told(k, 3), 1 + (from + 3 * k + 2) % 5);
                    }
                }
            }
        }
    }

    private static void watchersLeavesOthersOut() {
        int[][] bad = {{-1, 0, 1}, {6, 0, 1}, {0, -1, 1}, {0, 256, 1}, {0, 0, 0}, {0, 0, 10}, {0, 0, 100}, {0, 0, -1},
            {LEAST, 0, 1}, {GREATEST, 0, 1}, {0, LEAST, 1}, {0, GREATEST, 1}, {0, 0, LEAST}, {0, 0, GREATEST}};
        for (int[] b : bad) {
            for (int place = 0; place < 3; place++) {
                SkyWatchers x = new SkyWatchers();
                Still.lay(x, 2, 2, 0, 10, 1, 1, 20, 2, 2, 30, 3);
                for (int i = 0; i < 3; i++) {
                    x.cell(2, 3 * place + i, b[i]);
                }
                due.is("watchers: one is none", x.watchers(2, 2, 0, 3), 2);
                due.is("count(0)", x.count(0), 2);
                due.is("told(0, 1)", x.told(0, 1), place == 0 ? 20 : 10);
                due.is("told(1, 1)", x.told(1, 1), place == 2 ? 20 : 30);
                due.is("watchers: that one alone", x.watchers(2, 2, 3 * place, 1), 0);
                due.is("watchers: a place outside behind it", x.watchers(2, 2, 6, 2), OUTSIDE);
                due.is("count(0)", x.count(0), place == 2 ? 2 : 3);
            }
        }
    }

    private static void watchersWhereOnesIsFull() {
        for (int there = 0; there <= 10; there++) {
            SkyWatchers x = new SkyWatchers();
            for (int i = 0; i < there; i++) {
                x.watcher(0, 0, 1);
            }
            x.sheet(0, 0, 30);
            for (int k = 0; k < 10; k++) {
                x.cell(0, 3 * k + 1, 100 + k);
                x.cell(0, 3 * k + 2, 5);
            }
            due.is("watchers: as many as have room", x.watchers(0, 0, 0, 10), 10 - there);
            due.is("count(0)", x.count(0), 10);
            due.is("told(9, 1)", x.told(9, 1), there == 10 ? 0 : 109 - there);
            due.is("watchers: none has room", x.watchers(0, 0, 0, 10), 0);
            due.is("watchers: none has room, and a place outside", x.watchers(0, 0, 3, 10), OUTSIDE);
            due.is("count(0)", x.count(0), 10);
        }
    }

    // ---- promise 29

    private static void takenRefusesInItsOrder() {
        for (int k : new int[] {LEAST, -256, -2, -1, 6, 7, 256, 65536, GREATEST}) {
            for (int watcher : new int[] {LEAST, -1, 0, 3, 4, GREATEST}) {
                Still.refused(due, "taken(" + watcher + ", " + k + ")", x -> x.taken(watcher, k), BAD);
            }
            due.is("taken(0, " + k + ") of none", new SkyWatchers().taken(0, k), BAD);
        }
        for (int watcher : new int[] {LEAST, -256, -10, -1, 4, 5, 10, 256, GREATEST}) {
            for (int k = 0; k < 6; k++) {
                int kind = k;
                Still.refused(due, "taken(" + watcher + ", " + k + ")", x -> x.taken(watcher, kind), MISSING);
            }
        }
        due.is("taken(0, 0) of none", new SkyWatchers().taken(0, 0), MISSING);
        due.is("taken(0, 5) of none", new SkyWatchers().taken(0, 5), MISSING);
    }

    private static void takenForItsKindOrOneAbove() {
        String[] above = {"0", "01", "02", "013", "024", "025"};
        for (int kind = 0; kind < 6; kind++) {
            for (int number = 0; number <= 9; number += 3) {
                SkyWatchers x = Due.with(kind, 255, 10 * number + 7);
                for (int k = 0; k < 6; k++) {
                    int want = above[kind].indexOf((char) ('0' + k)) >= 0 ? number : OTHER;
                    due.is("taken: kind " + kind + " for " + k, x.taken(0, k), want);
                }
            }
        }
    }
}
