import java.util.ArrayList;

/**
 * Tells whether a refused call changed something: all that can be asked of an object that had it is
 * compared with what one answers that lived through the same calls without it.
 */
final class Still {
    /** Calls on an object. */
    interface Calls {
        void on(SkyWatchers x);
    }

    /** One call on an object. */
    interface Call {
        long on(SkyWatchers x);
    }

    /** Squares that are looked at: those that lived() uses, and some beside them. */
    private static final int[] SQUARES = {0, 1, 17, 40, 41, 127, 128, 136, 139, 200, 254, 255};

    private Still() {
    }

    /** The call must answer so behind these calls, and leave everything as it was. */
    static void refused(Due due, Calls ahead, String name, Call call, long want) {
        SkyWatchers x = new SkyWatchers();
        ahead.on(x);
        due.is(name, call.on(x), want);
        same(due, ahead, "behind " + name, x);
    }

    /** As above, of one that has something of all that it can have. */
    static void refused(Due due, String name, Call call, long want) {
        refused(due, Still::lived, name, call, want);
    }

    /** An object must answer as one does that had these calls alone. */
    static void same(Due due, Calls calls, String name, SkyWatchers x) {
        SkyWatchers twin = new SkyWatchers();
        calls.on(twin);
        ArrayList<Long> got = look(x);
        ArrayList<Long> want = look(twin);
        due.is("answers " + name, got.size(), want.size());
        for (int i = 0; i < Math.min(got.size(), want.size()); i++) {
            due.is("answer " + i + " " + name, got.get(i), want.get(i));
        }
    }

    /**
     * Something of all: four WATCHERS, three DEAD, three HIDDEN squares, TEXTS 0 .. 2, THE TAPE with a
     * text, THE IMAGE with other places, SHEETS 0 .. 2 of the sorts 0 .. 2, 3 missing.
     */
    static void lived(SkyWatchers x) {
        x.watcher(0, 136, 12);
        x.watcher(3, 139, 25);
        x.watcher(5, 133, 31);
        x.watcher(4, 140, 49);
        x.dead(136, 3);
        x.dead(20, 40);
        x.hide(0, 1);
        x.hide(40, 1);
        x.hide(255, 1);
        Due.text(x, "see 1;trust 1;cost 2;");
        Due.text(x, "see far<3;trust 1;cost hung;");
        x.force(1);
        x.meat(33);
        x.image();
        x.hang(0, 137);
        x.hang(3, 141);
        x.meat(44);
        x.dead(200, 9);
        x.force(2);
        Due.feed(x, "see 1;trust 1;cost 7;");
        lay(x, 0, 0, 1, 2, 3, 4, 5, 6);
        lay(x, 1, 1, 2, 255, 19);
        lay(x, 2, 2, 5, 254, 99, 0);
    }

    /** A SHEET of a sort with these items. */
    static void lay(SkyWatchers x, int sheet, int sort, int... items) {
        x.sheet(sheet, sort, items.length);
        for (int i = 0; i < items.length; i++) {
            x.cell(sheet, i, items[i]);
        }
    }

    /** All that an object answers; it is not to be used any more then. */
    private static ArrayList<Long> look(SkyWatchers x) {
        ArrayList<Long> all = new ArrayList<>();
        counts(x, all);
        for (int square : SQUARES) {
            all.add((long) x.edge(square));
        }
        for (int w = 0; w < x.count(0); w++) {
            watcher(x, w, all);
        }
        all.add((long) x.apart());
        for (int part = 0; part < 3; part++) {
            all.add(x.good(part));
            all.add(x.found(part));
        }
        sheets(x, all);
        texts(x, all);
        all.add((long) x.back());
        for (int w = 0; w < x.count(0); w++) {
            all.add((long) x.told(w, 1));
        }
        counts(x, all);
        for (int square : SQUARES) {
            all.add((long) x.hide(square, 0));
        }
        return all;
    }

    private static void counts(SkyWatchers x, ArrayList<Long> all) {
        for (int what = 0; what < 7; what++) {
            all.add((long) x.count(what));
        }
    }

    private static void watcher(SkyWatchers x, int w, ArrayList<Long> all) {
        for (int what = 0; what < 9; what++) {
            all.add((long) x.told(w, what));
        }
        for (int what = 1; what < 5; what++) {
            all.add((long) x.find(136, w, what));
        }
        all.add(x.has(w, 0));
        all.add(x.has(w, 1));
        all.add((long) x.wasted(w));
        all.add((long) x.rather(w));
    }

    private static void sheets(SkyWatchers x, ArrayList<Long> all) {
        for (int sheet = 0; sheet < 4; sheet++) {
            all.add((long) x.isTrue(136, sheet));
            for (int n : new int[] {0, 1, 2, 3, 4, 5, 6, 7, 40}) {
                all.add((long) x.copy(sheet, 0, sheet, 0, n));
            }
        }
        int ahead = x.count(0);
        for (int sheet = 0; sheet < 4; sheet++) {
            for (int sort = 0; sort < 3; sort++) {
                all.add((long) x.watchers(sheet, sort, 0, 10));
            }
        }
        for (int w = ahead; w < x.count(0); w++) {
            for (int what = 0; what < 4; what++) {
                all.add((long) x.told(w, what));
            }
        }
    }

    private static void texts(SkyWatchers x, ArrayList<Long> all) {
        all.add((long) x.text());
        for (int text = 0; text < 6; text++) {
            all.add((long) x.force(text));
            all.add((long) x.told(0, 8));
            all.add((long) x.edge(136));
        }
    }
}
