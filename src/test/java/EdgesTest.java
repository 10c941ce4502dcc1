import java.lang.reflect.Method;
import java.util.HashMap;
import java.util.List;
import java.util.Set;

/**
 * Every call with all edges of each of its numbers, each with each, on SkyWatchers and on the Model: of
 * a new object, of one that has something of all, and of one that has as much as can be. A call that is
 * refused, or one that asks only, leaves all as it was.
 */
public final class EdgesTest {
    private static final long LEAST = Integer.MIN_VALUE, GREATEST = Integer.MAX_VALUE;
    private static final long[] EDGES = {LEAST, -16, -5, -2, -1, 0, 1, 2, 3, 4, 5, 6, 7, 8, 9, 10, 11, 16, 30, 31,
        39, 40, 41, 91, 98, 99, 100, 101, 136, 254, 255, 256, 257, 65536, GREATEST};
    private static final long[] FEWER = {LEAST, -2, -1, 0, 1, 2, 3, 4, 6, 9, 10, 11, 39, 40, 41, GREATEST};
    private static final long[] FEWEST = {LEAST, -1, 0, 1, 2, 3, 4, 6, 40, GREATEST};
    private static final long[] LONGS = {Long.MIN_VALUE, LEAST, -1, 0, 32, 0x786573, GREATEST, GREATEST + 1,
        0x72743b3120656573L, Long.MAX_VALUE};

    /** These answer, and change nothing. */
    private static final Set<String> ASKING = Set.of("told", "find", "edge", "wasted", "alone", "isTrue", "has",
            "found", "good", "rather", "apart", "count", "taken");

    /** All calls but those without numbers, which any run has; with how many numbers. */
    private static final String[] CALLS = {"hide", "watcher", "hang", "meat", "dead", "told", "feed", "force",
        "find", "edge", "wasted", "alone", "isTrue", "has", "found", "good", "rather", "rest", "count", "sheet",
        "cell", "copy", "watchers", "taken", "text", "apart", "image", "back"};
    private static final int[] NUMBERS = {2, 3, 2, 1, 2, 2, 2, 1, 3, 1, 1, 2, 2, 2, 1, 1, 1, 1, 1, 3, 3, 5, 4, 2, 0,
        0, 0, 0};

    /** Refused calls that one object has ahead of the look at it. */
    private static final int MOST_CALLS = 100;

    private static final Due due = new Due("EdgesTest");
    private static final HashMap<String, Method> METHODS = new HashMap<>();

    public static void main(String[] args) {
        List<List<String>> lives = List.of(List.of(), lived(), full());
        for (List<String> life : lives) {
            for (int c = 0; c < CALLS.length && !due.hasWrong(); c++) {
                allOf(life, CALLS[c], NUMBERS[c]);
            }
        }
        due.end();
    }

    private static List<String> lived() {
        return List.of("watcher 0 136 12", "watcher 3 139 25", "watcher 5 133 31", "dead 136 3", "dead 10 40",
                "hide 0 1", "hide 9 1", "feed 7 " + bytes("see far"), "feed 7 " + bytes("<3;trus"),
                "feed 4 " + bytes("t 1;"), "feed 7 " + bytes("cost 2;"), "text", "force 1", "meat 33", "image",
                "hang 0 137", "hang 2 5", "dead 255 9", "meat 44", "force 0", "feed 7 " + bytes("see 1;t"),
                "feed 6 " + bytes("rust 1"), "feed 8 " + bytes(";cost 5;"), "sheet 0 0 6", "cell 0 0 4",
                "cell 0 1 31", "cell 0 2 15", "cell 0 3 1", "cell 0 4 6", "cell 0 5 99", "sheet 1 1 3",
                "cell 1 0 -1", "cell 1 1 255", "cell 1 2 11", "sheet 2 2 40", "cell 2 0 1", "cell 2 1 255",
                "cell 2 2 1", "cell 2 39 3");
    }

    private static List<String> full() {
        java.util.ArrayList<String> all = new java.util.ArrayList<>();
        for (int i = 0; i < 10; i++) {
            all.add("watcher " + i % 6 + " " + (130 + i) + " " + (10 * i + i % 9 + 1));
        }
        for (int i = 0; i < 6; i++) {
            all.add("dead " + 51 * i + " " + (99 - i));
        }
        for (int i = 1; i <= 5; i++) {
            all.add("feed 7 " + bytes("see 1;t"));
            all.add("feed 6 " + bytes("rust 1"));
            all.add("feed 8 " + bytes(";cost " + i + ";"));
            all.add("text");
        }
        for (int i = 0; i < 20; i++) {
            all.add("feed 8 " + bytes("        "));
        }
        all.add("image");
        all.add("meat 99");
        all.add("force 5");
        for (int sheet = 0; sheet < 4; sheet++) {
            all.add("sheet " + sheet + " " + (2 - sheet % 3) + " " + (sheet == 3 ? 40 : 10));
            all.add("cell " + sheet + " 1 " + (sheet + 1));
            all.add("cell " + sheet + " 9 " + (sheet + 1));
        }
        return all;
    }

    private static long bytes(String text) {
        long all = 0;
        for (int i = 0; i < text.length(); i++) {
            all |= (long) text.charAt(i) << 8 * i;
        }
        return all;
    }

    // ---- calls by their names

    private static long call(Object on, String name, long... numbers) {
        try {
            Method m = METHODS.get(on.getClass().getName() + name);
            if (m == null) {
                for (Method one : on.getClass().getDeclaredMethods()) {
                    boolean named = one.getName().equals(name) && !java.lang.reflect.Modifier.isPrivate(one.getModifiers());
                    m = named && one.getParameterCount() == numbers.length ? one : m;
                }
                METHODS.put(on.getClass().getName() + name, m);
            }
            Object[] given = new Object[numbers.length];
            for (int i = 0; i < given.length; i++) {
                given[i] = m.getParameterTypes()[i] == long.class ? (Object) numbers[i] : (Object) (int) numbers[i];
            }
            return ((Number) m.invoke(on, given)).longValue();
        } catch (ReflectiveOperationException e) {
            throw new IllegalStateException(name, e);
        }
    }

    private static void live(Object on, List<String> life) {
        for (String one : life) {
            String[] words = one.split(" ");
            long[] numbers = new long[words.length - 1];
            for (int i = 0; i < numbers.length; i++) {
                numbers[i] = Long.parseLong(words[i + 1]);
            }
            call(on, words[0], numbers);
        }
    }

    // ---- all edges

    private static void allOf(List<String> life, String name, int count) {
        long[] some = count > 4 ? FEWEST : count > 3 ? FEWER : EDGES;
        int all = 1;
        for (int i = 0; i < count; i++) {
            all *= name.equals("feed") && i == 1 ? LONGS.length : some.length;
        }
        SkyWatchers x = null;
        Model m = null;
        int made = 0;
        for (int which = 0; which < all && !due.hasWrong(); which++) {
            if (x == null) {
                x = new SkyWatchers();
                m = new Model();
                live(x, life);
                live(m, life);
                made = 0;
            }
            long[] numbers = new long[count];
            for (int i = 0, left = which; i < count; i++) {
                long[] edges = name.equals("feed") && i == 1 ? LONGS : some;
                numbers[i] = edges[left % edges.length];
                left /= edges.length;
            }
            String said = name + java.util.Arrays.toString(numbers) + " behind " + life.size();
            long want = call(m, name, numbers);
            due.is(said, call(x, name, numbers), want);
            made++;
            boolean refused = want < -1 && want > -100 || want == SkyWatchers.NO;
            if (!refused && !ASKING.contains(name)) {
                isLike(x, m, said);
                x = null;
            } else if (made == MOST_CALLS || which == all - 1) {
                Still.same(due, on -> live(on, life), "up to " + said, x);
                x = null;
            }
        }
    }

    /** Behind a call that changed something: the object and the Model answer alike. */
    private static void isLike(SkyWatchers x, Model m, String said) {
        for (int what = 0; what < 7; what++) {
            due.is("count behind " + said, x.count(what), m.count(what));
        }
        for (int w = 0; w < m.count(0); w++) {
            for (int what = 0; what < 4; what++) {
                due.is("told behind " + said, x.told(w, what), m.told(w, what));
            }
        }
        due.is("edge behind " + said, x.edge(136), m.edge(136));
        due.is("found behind " + said, x.found(2), m.found(2));
        for (int sheet = 0; sheet < 4; sheet++) {
            due.is("isTrue behind " + said, x.isTrue(136, sheet), m.isTrue(136, sheet));
            for (int sort = 0; sort < 3; sort++) {
                due.is("watchers behind " + said, x.watchers(sheet, sort, 0, 10), m.watchers(sheet, sort, 0, 10));
            }
        }
        for (int w = 0; w < m.count(0); w++) {
            due.is("told behind " + said, x.told(w, 1), m.told(w, 1));
        }
        due.is("text behind " + said, x.text(), m.text());
        due.is("back behind " + said, x.back(), m.back());
        due.is("apart behind " + said, x.apart(), m.apart());
    }
}
