/** Runs of calls, drawn from a fixed row of numbers, on SkyWatchers and on the Model. */
public final class ModelTest {
    private static final Due due = new Due("ModelTest");
    private static final String[] WORDS = {"see", "trust", "cost", "or", "and", "not", "far", "minute",
        "dropped", "number", "hung", "kind", "(", ")", ";", "+", "-", "*", "<", "=", "0", "1", "17",
        "9999", "12345", "x", "\n", "#"};

    private long state;
    private SkyWatchers x;
    private Model m;

    public static void main(String[] args) {
        for (int run = 0; run < 120 && !due.hasWrong(); run++) {
            new ModelTest().run(run);
        }
        for (int run = 0; run < 4000 && !due.hasWrong(); run++) {
            new ModelTest().readTexts(run);
        }
        due.end();
    }

    /** A number from 0 to n - 1. */
    private int pick(int n) {
        state = state * 6364136223846793005L + 1442695040888963407L;
        return (int) ((state >>> 33) % n);
    }

    /** Mostly from 0 to n - 1, at times beside it. */
    private int near(int n) {
        int[] odd = {-1, n, n + 1, -7, Integer.MAX_VALUE, Integer.MIN_VALUE};
        return pick(25) == 0 ? odd[pick(odd.length)] : pick(n);
    }

    /** Mostly a square in a corner of the plain, so that many see one another. */
    private int square() {
        int side = pick(3) == 0 ? 16 : 8;
        return pick(40) == 0 ? near(256) : 16 * pick(side) + pick(side);
    }

    private void begin(int run) {
        state = run * 7919L + 12345;
        pick(2);
        x = new SkyWatchers();
        m = new Model();
    }

    private void run(int run) {
        begin(run);
        int birds = pick(11);
        for (int i = 0; i < birds; i++) {
            watcher();
        }
        // an object is used for 512 calls at most: a rule takes up to 162, the dearest of the others 11
        int first = due.asked() - birds;
        while (due.asked() - first <= 500 && !due.hasWrong()) {
            int kind = pick(100);
            if (kind < 25) {
                change();
            } else if (kind < 50) {
                ask();
            } else if (kind < 60) {
                askDear();
            } else if (kind < 80) {
                useSheets();
            } else if (kind < 84 && due.asked() - first < 340) {
                writeRule();
            } else {
                askSmall();
            }
        }
    }

    private void watcher() {
        int kind = near(6);
        int square = square();
        int rest = pick(20) == 0 ? near(100) : 10 * pick(10) + 1 + pick(9);
        due.is("watcher " + kind + " " + square + " " + rest, x.watcher(kind, square, rest),
                m.watcher(kind, square, rest));
    }

    private void change() {
        int a = square();
        int b = near(10);
        switch (pick(8)) {
            case 0:
                due.is("hide", x.hide(a, b % 3), m.hide(a, b % 3));
                break;
            case 1:
                int v = near(100);
                due.is("meat " + v, x.meat(v), m.meat(v));
                break;
            case 2:
                int weight = near(100);
                due.is("dead " + a + " " + weight, x.dead(a, weight), m.dead(a, weight));
                break;
            case 3:
                due.is("image", x.image(), m.image());
                break;
            case 4:
                due.is("back", x.back(), m.back());
                break;
            case 5:
                int text = near(6);
                due.is("force " + text, x.force(text), m.force(text));
                break;
            default:
                due.is("hang " + b + " " + a, x.hang(b, a), m.hang(b, a));
        }
    }

    private void ask() {
        int square = square();
        int w = near(10);
        int what = near(5);
        int sheet = near(4);
        switch (pick(7)) {
            case 0:
                due.is("edge " + square, x.edge(square), m.edge(square));
                break;
            case 1:
                due.is("wasted " + w, x.wasted(w), m.wasted(w));
                break;
            case 2:
                due.is("alone " + square + " " + w, x.alone(square, w), m.alone(square, w));
                break;
            case 3:
                due.is("isTrue " + square + " " + sheet, x.isTrue(square, sheet), m.isTrue(square, sheet));
                break;
            default:
                due.is("find " + square + " " + w + " " + what, x.find(square, w, what),
                        m.find(square, w, what));
        }
    }

    private void askDear() {
        int w = near(10);
        int part = near(3);
        switch (pick(6)) {
            case 0:
                due.is("found " + part, x.found(part), m.found(part));
                break;
            case 1:
                due.is("good " + part, x.good(part), m.good(part));
                break;
            case 2:
                due.is("rather " + w, x.rather(w), m.rather(w));
                break;
            case 3:
                if (pick(3) == 0) {
                    int n = near(4);
                    due.is("rest " + n, x.rest(n), m.rest(n));
                }
                break;
            default:
                due.is("has " + w + " " + part, x.has(w, part), m.has(w, part));
        }
    }

    private void askSmall() {
        int w = near(10);
        int what = near(9);
        switch (pick(4)) {
            case 0:
                due.is("told " + w + " " + what, x.told(w, what), m.told(w, what));
                break;
            case 1:
                due.is("taken " + w + " " + what, x.taken(w, what), m.taken(w, what));
                break;
            case 2:
                due.is("count " + what, x.count(what), m.count(what));
                break;
            default:
                due.is("apart", x.apart(), m.apart());
        }
    }

    private void useSheets() {
        int sheet = near(4);
        int other = near(4);
        int sort = pick(30) == 0 ? near(3) : sheet % 3;
        int i = pick(3) == 0 ? near(40) : pick(4);
        int j = pick(3) == 0 ? near(40) : pick(4);
        switch (pick(8)) {
            case 0:
                int n = pick(3) == 0 ? near(41) : pick(4) == 0 ? Math.max(0, m.count(0)) : 6 + pick(9);
                due.is("sheet " + sheet + " " + sort + " " + n, x.sheet(sheet, sort, n),
                        m.sheet(sheet, sort, n));
                break;
            case 1:
                int count = pick(4) == 0 ? near(41) : pick(5);
                due.is("copy", x.copy(sheet, i, other, j, count), m.copy(sheet, i, other, j, count));
                break;
            case 2:
                int many = near(11);
                due.is("watchers", x.watchers(sheet, sort, i, many), m.watchers(sheet, sort, i, many));
                break;
            case 3:
                tellTruth(sheet);
                break;
            default:
                int v = pick(5) == 0 ? pick(200000) - 100000 : pick(3) == 0 ? -1 : pick(40);
                due.is("cell", x.cell(sheet, i, v), m.cell(sheet, i, v));
        }
    }

    /** Writes what came of a find onto a sheet, for isTrue() to be true now and then. */
    private void tellTruth(int sheet) {
        int square = square();
        int birds = m.count(0);
        for (int i = 0; i < birds; i++) {
            int comes = m.find(square, i, 1);
            due.is("cell", x.cell(sheet, i, comes), m.cell(sheet, i, comes));
        }
        due.is("isTrue", x.isTrue(square, sheet), m.isTrue(square, sheet));
    }

    private void writeRule() {
        String text = "see " + sum(0) + ";trust " + sum(0) + ";cost " + sum(0) + ";";
        if (text.length() > 160 || pick(3) == 0) {
            text = "see " + atom() + ";\ntrust " + atom() + "<" + atom() + "+2; cost " + atom() + "*3";
            text += pick(4) == 0 ? "" : ";";
        }
        feed(text);
        int number = m.text();
        due.is("text of " + text, x.text(), number);
        due.is("force", x.force(number), m.force(number));
    }

    private void feed(String text) {
        for (int from = 0; from < text.length(); ) {
            int n = Math.min(1 + pick(8), text.length() - from);
            long bytes = (long) pick(1 << 30) << 34;
            for (int i = 0; i < n; i++) {
                bytes = bytes & ~(255L << 8 * i) | (long) text.charAt(from + i) << 8 * i;
            }
            due.is("feed", x.feed(n, bytes), m.feed(n, bytes));
            from += n;
        }
    }

    private String atom() {
        String[] names = {"far", "minute", "dropped", "number", "hung", "kind"};
        return pick(3) == 0 ? "" + pick(12) : names[pick(names.length)];
    }

    private String sum(int depth) {
        String[] operators = {"or", "and", "<", "=", "+", "-", "*", "*", "-", "+"};
        if (depth > 3 || pick(4) == 0) {
            return atom();
        }
        switch (pick(6)) {
            case 0: return "(" + sum(depth + 1) + ")";
            case 1: return "not " + sum(depth + 1);
            case 2: return "-" + sum(depth + 1);
            default: return sum(depth + 1) + " " + operators[pick(operators.length)] + " " + sum(depth + 1);
        }
    }

    /** Texts that stand or nearly do: a token is put in, taken out or changed. */
    private void readTexts(int run) {
        begin(run);
        watcher();
        for (int call = 0; call < 10; call++) {
            String text = "see " + sum(1) + " ; trust " + sum(2) + " ; cost " + sum(1) + " ; ";
            for (int change = pick(3); change > 0; change--) {
                int at = pick(text.length());
                int end = Math.min(text.length(), at + pick(4));
                text = text.substring(0, at) + (pick(2) == 0 ? WORDS[pick(WORDS.length)] : "")
                        + text.substring(end);
            }
            text = text.substring(0, Math.min(text.length(), 160));
            feed(text);
            int number = m.text();
            due.is("text of " + text, x.text(), number);
            if (number > 0) {
                due.is("force", x.force(number), m.force(number));
                due.is("cost of " + text, x.told(0, 8), m.told(0, 8));
            }
            if (number == SkyWatchers.FULL) {
                return;
            }
        }
    }
}
