import java.math.BigInteger;
import java.util.ArrayList;
import java.util.Arrays;
import java.util.List;
import java.util.TreeMap;

/**
 * The document once more, plain and slow, written apart from SkyWatchers: it walks texts anew for
 * each value, counts minute by minute, and lets Java's own rows say what lies outside of them.
 */
final class Model {
    private static final int NONE = -1, BAD = -2, STATE = -3, FULL = -4;

    private static final class Bird {
        final int kind;
        final int number;
        final int speed;
        int square;

        Bird(int kind, int square, int rest) {
            this.kind = kind;
            this.square = square;
            number = rest / 10;
            speed = rest % 10;
        }

        int looks() {
            return new int[] {3, 3 + number, NONE, 5 + number, NONE, NONE}[kind];
        }

        int gazes() {
            return new int[] {4, 4, 4 + number, 2, 4 + number, 8 + 2 * number}[kind];
        }

        int needs() {
            return kind == 4 ? 2 : 1;
        }

        int slow() {
            return kind == 5 ? 2 : 0;
        }
    }

    /** What came of a find, for each bird. */
    private static final class Result {
        final Integer[] saw;
        final Integer[] dropped;
        final Integer[] after;
        final boolean[] ground;

        Result(int n) {
            saw = new Integer[n];
            dropped = new Integer[n];
            after = new Integer[n];
            ground = new boolean[n];
        }
    }

    private final List<Bird> birds = new ArrayList<>();
    private final TreeMap<Integer, Integer> hidden = new TreeMap<>();
    private List<int[]> dead = new ArrayList<>();
    private int meat = 20;
    private String tape = "";
    private final List<String> texts = new ArrayList<>(List.of("see 1 ; trust 1 ; cost 1 ;"));
    private int rule = 0;
    private final Object[] sheets = new Object[4];
    private List<Integer> keptSquares = null;
    private List<int[]> keptDead = null;
    private int keptMeat = 0;
    private int keptRule = 0;

    private static int far(int a, int b) {
        return Math.max(Math.abs((a & 15) - (b & 15)), Math.abs((a >> 4) - (b >> 4)));
    }

    private static boolean square(int s) {
        return s >= 0 && s <= 255;
    }

    private boolean bird(int i) {
        return i >= 0 && i < birds.size();
    }

    // ---- the plain, watchers

    int hide(int square, int is) {
        if (!square(square) || (is != 0 && is != 1)) {
            return BAD;
        }
        Integer was = is == 1 ? hidden.put(square, 1) : hidden.remove(square);
        return was == null ? 0 : 1;
    }

    int watcher(int kind, int square, int rest) {
        if (kind < 0 || kind > 5 || !square(square) || rest < 1 || rest > 99 || rest % 10 == 0) {
            return BAD;
        }
        if (birds.size() == 10) {
            return FULL;
        }
        birds.add(new Bird(kind, square, rest));
        return birds.size() - 1;
    }

    int hang(int watcher, int square) {
        if (!bird(watcher) || !square(square)) {
            return BAD;
        }
        int was = birds.get(watcher).square;
        birds.get(watcher).square = square;
        return was;
    }

    int meat(int v) {
        if (v < 0 || v > 99) {
            return BAD;
        }
        int was = meat;
        meat = v;
        return was;
    }

    int dead(int square, int weight) {
        if (!square(square) || weight < 1 || weight > 99) {
            return BAD;
        }
        if (dead.size() == 6) {
            return FULL;
        }
        dead.add(new int[] {square, weight});
        return dead.size() - 1;
    }

    int told(int watcher, int what) {
        if (!bird(watcher) || what < 0 || what > 8) {
            return -5;
        }
        Bird b = birds.get(watcher);
        return new int[] {b.kind, b.square, b.number, b.speed, b.looks(), b.gazes(), b.needs(), b.slow(),
            cost(b)}[what];
    }

    // ---- texts

    int feed(int n, long bytes) {
        if (n < 1 || n > 8) {
            return BAD;
        }
        if (tape.length() + n > 160) {
            return FULL;
        }
        for (int i = 0; i < n; i++) {
            tape += (char) (bytes >> 8 * i & 255);
        }
        return tape.length();
    }

    int text() {
        if (texts.size() == 6) {
            return FULL;
        }
        String text = tape;
        tape = "";
        int fault = fault(text);
        if (fault >= 0) {
            return -100 - fault;
        }
        texts.add(text);
        return texts.size() - 1;
    }

    int force(int text) {
        if (text < 0 || text >= texts.size()) {
            return BAD;
        }
        int was = rule;
        rule = text;
        return was;
    }

    /** The token from a place on (blanks are behind): "" at the end, "?" and all of it if none such. */
    private static String token(String text, int at) {
        if (at == text.length()) {
            return "";
        }
        for (String shape : new String[] {"[a-z]+", "[0-9]+", "[();+*<=-]"}) {
            java.util.regex.Matcher m = java.util.regex.Pattern.compile(shape).matcher(text);
            if (m.region(at, text.length()).lookingAt()) {
                String found = m.group();
                boolean word = shape.equals("[a-z]+");
                if (word && !(" see trust cost or and not " + NAMES).contains(" " + found + " ")) {
                    return "?" + found;
                }
                return shape.equals("[0-9]+") && found.length() > 4 ? "?" + found : found;
            }
        }
        return "?" + text.charAt(at);
    }

    private static final String NAMES = " far minute dropped number hung kind ";

    private static int blanks(String text, int at) {
        int end = at;
        while (end < text.length() && (text.charAt(end) == ' ' || text.charAt(end) == '\n')) {
            end++;
        }
        return end;
    }

    /** The place of the fault, by what may stand next, with what is open on a stack; or -1. */
    private static int fault(String text) {
        String[] keys = {"see", "trust", "cost", ""};
        int at = 0;
        for (String key : keys) {
            at = blanks(text, at);
            String token = token(text, at);
            if (!token.equals(key)) {
                return at;
            }
            if (key.isEmpty()) {
                return -1;
            }
            at += token.length();
            StringBuilder open = new StringBuilder();
            ArrayList<Boolean> compared = new ArrayList<>(List.of(false));
            boolean needsOne = true;
            boolean mayDeny = true;
            while (true) {
                at = blanks(text, at);
                token = token(text, at);
                if (token.isEmpty() || token.startsWith("?")) {
                    return at;
                }
                int last = compared.size() - 1;
                if (needsOne) {
                    boolean opens = token.equals("(") || token.equals("-") || token.equals("not") && mayDeny;
                    boolean one = Character.isDigit(token.charAt(0)) || NAMES.contains(" " + token + " ");
                    if (!one && !opens || opens && open.length() == 5) {
                        return at;
                    }
                    if (opens) {
                        open.append(token.charAt(0));
                        mayDeny = !token.equals("-");
                        if (token.equals("(")) {
                            compared.add(false);
                        }
                    } else {
                        needsOne = false;
                        drop(open, '-');
                    }
                } else if (token.equals(";")) {
                    drop(open, 'n');
                    if (open.length() > 0) {
                        return at;
                    }
                    at++;
                    break;
                } else if (token.equals(")")) {
                    drop(open, 'n');
                    if (open.length() == 0) {
                        return at;
                    }
                    open.setLength(open.length() - 1);
                    compared.remove(last);
                    drop(open, '-');
                } else if (token.equals("or") || token.equals("and")) {
                    drop(open, 'n');
                    compared.set(last, false);
                    needsOne = true;
                    mayDeny = true;
                } else if (token.equals("<") || token.equals("=")) {
                    if (compared.get(last)) {
                        return at;
                    }
                    compared.set(last, true);
                    needsOne = true;
                    mayDeny = false;
                } else if (token.equals("+") || token.equals("-") || token.equals("*")) {
                    needsOne = true;
                    mayDeny = false;
                } else {
                    return at;
                }
                at += token.length();
            }
        }
        return -1;
    }

    private static void drop(StringBuilder open, char what) {
        while (open.length() > 0 && open.charAt(open.length() - 1) == what) {
            open.setLength(open.length() - 1);
        }
    }

    /** Walks a text that stands, by how tight its operators bind. */
    private static final class Walk {
        final List<String> tokens = new ArrayList<>();
        final int[] names;
        int at = 0;

        Walk(String part, int[] names) {
            this.names = names;
            for (int i = blanks(part, 0); i < part.length(); i = blanks(part, i)) {
                String token = token(part, i);
                tokens.add(token);
                i += token.length();
            }
            tokens.add("");
        }

        private static int tight(String operator) {
            switch (operator) {
                case "or": return 1;
                case "and": return 2;
                case "<": case "=": return 4;
                case "+": case "-": return 5;
                case "*": return 6;
                default: return 0;
            }
        }

        int value(int atLeast) {
            String first = tokens.get(at++);
            int left;
            if (first.equals("not")) {
                left = value(3) == 0 ? 1 : 0;
            } else if (first.equals("-")) {
                left = -value(7);
            } else if (first.equals("(")) {
                left = value(1);
                at++;
            } else if (Character.isDigit(first.charAt(0))) {
                left = Integer.parseInt(first);
            } else {
                left = names[Arrays.asList(NAMES.trim().split(" ")).indexOf(first)];
            }
            while (tight(tokens.get(at)) >= Math.max(1, atLeast)) {
                String operator = tokens.get(at++);
                left = joined(operator, left, value(tight(operator) + 1));
            }
            return left;
        }

        private static int joined(String operator, int a, int b) {
            switch (operator) {
                case "or": return a == 0 && b == 0 ? 0 : 1;
                case "and": return a == 0 || b == 0 ? 0 : 1;
                case "<": return Integer.compare(a, b) < 0 ? 1 : 0;
                case "=": return Integer.compare(a, b) == 0 ? 1 : 0;
                case "+": return (int) ((long) a + b);
                case "-": return (int) ((long) a - b);
                default: return (int) ((long) a * b);
            }
        }
    }

    private int value(String key, int... names) {
        String text = texts.get(rule);
        for (String part : text.split(";")) {
            String body = part.substring(blanks(part, 0));
            if (body.startsWith(key)) {
                return new Walk(body.substring(key.length()), names).value(1);
            }
        }
        throw new IllegalStateException(key + " in " + text);
    }

    private int cost(Bird b) {
        int v = value("cost", 0, 0, 0, b.number, far(b.square, 136), b.kind);
        return v < 0 ? 0 : v > 999 ? 999 : v;
    }

    // ---- finds

    private Result play(int square, int faker, int absent) {
        int n = birds.size();
        Result r = new Result(n);
        if (faker >= 0) {
            r.saw[faker] = 0;
            r.dropped[faker] = 0;
        }
        for (int minute = 0; minute <= 30; minute++) {
            for (int i = 0; i < n; i++) {
                if (r.saw[i] != null || i == absent) {
                    continue;
                }
                Bird b = birds.get(i);
                int away = far(b.square, square);
                int many = 0;
                Integer first = null;
                for (int o = 0; o < n; o++) {
                    if (o == i || r.dropped[o] == null || r.dropped[o] >= minute) {
                        continue;
                    }
                    if (far(b.square, birds.get(o).square) <= b.gazes()) {
                        many++;
                        first = first == null || r.dropped[first] > r.dropped[o] ? (Integer) o : first;
                    }
                }
                int[] names = {away, minute, many, b.number, far(b.square, 136), b.kind};
                boolean open = away < 2 || !hidden.containsKey(square);
                if (faker < 0 && b.looks() >= away && open && value("see", names) != 0) {
                    r.ground[i] = true;
                } else if (many >= b.needs() && value("trust", names) != 0) {
                    r.after[i] = first;
                } else {
                    continue;
                }
                r.saw[i] = minute;
                if (minute + b.slow() <= 30) {
                    r.dropped[i] = minute + b.slow();
                }
            }
        }
        return r;
    }

    private int comes(Result r, int square, int i) {
        if (r.dropped[i] == null) {
            return NONE;
        }
        int away = far(birds.get(i).square, square);
        int speed = birds.get(i).speed;
        return r.dropped[i] + away / speed + (away % speed == 0 ? 0 : 1);
    }

    private int[] shares(Result r, int square) {
        int[] shares = new int[birds.size()];
        int left = meat;
        for (int minute = 0; minute < 60; minute++) {
            for (int came = 0; came <= minute; came++) {
                for (int i = 0; i < shares.length; i++) {
                    if (r.dropped[i] != null && comes(r, square, i) == came && left > 0) {
                        shares[i]++;
                        left--;
                    }
                }
            }
        }
        return shares;
    }

    int find(int square, int watcher, int what) {
        if (!square(square) || !bird(watcher) || what < 0 || what > 4) {
            return BAD;
        }
        Result r = play(square, NONE, NONE);
        if (r.dropped[watcher] == null) {
            return NONE;
        }
        int trail = 0;
        for (Integer at = r.after[watcher]; at != null; at = r.after[at]) {
            trail++;
        }
        Integer after = r.after[watcher];
        return new int[] {r.dropped[watcher], comes(r, square, watcher), after == null ? NONE : after,
            shares(r, square)[watcher], trail}[what];
    }

    int edge(int square) {
        if (!square(square)) {
            return BAD;
        }
        Result r = play(square, NONE, NONE);
        int bits = 0;
        for (int i = 0; i < birds.size(); i++) {
            bits += r.ground[i] ? (int) Math.pow(2, i) : 0;
        }
        return bits;
    }

    int wasted(int watcher) {
        if (!bird(watcher)) {
            return BAD;
        }
        Result r = play(birds.get(watcher).square, watcher, NONE);
        return (int) Arrays.stream(r.dropped).filter(d -> d != null).count() - 1;
    }

    int alone(int square, int watcher) {
        if (!square(square) || !bird(watcher)) {
            return BAD;
        }
        int[] with = shares(play(square, NONE, NONE), square);
        int[] without = shares(play(square, NONE, watcher), square);
        return Arrays.stream(without).sum() - (Arrays.stream(with).sum() - with[watcher]);
    }

    int isTrue(int square, int sheet) {
        if (!square(square) || sheet < 0 || sheet > 3) {
            return BAD;
        }
        if (sheets[sheet] == null) {
            return -11;
        }
        if (java.lang.reflect.Array.getLength(sheets[sheet]) != birds.size()) {
            return BAD;
        }
        Result r = play(square, NONE, NONE);
        for (int i = 0; i < birds.size(); i++) {
            if (java.lang.reflect.Array.getInt(sheets[sheet], i) != comes(r, square, i)) {
                return i;
            }
        }
        return NONE;
    }

    // ---- what each has

    /** Above and below the line, in lowest terms. */
    private static long[] lowest(long above, long below) {
        long divisor = BigInteger.valueOf(above).gcd(BigInteger.valueOf(below)).longValue();
        return new long[] {above / divisor, below / divisor};
    }

    private long[] hasOf(int i) {
        long below = dead.stream().mapToLong(d -> d[1]).sum();
        long above = 0;
        for (int[] d : dead) {
            above += (long) d[1] * shares(play(d[0], NONE, NONE), d[0])[i];
        }
        long cost = cost(birds.get(i));
        return dead.isEmpty() ? new long[] {-cost, 1} : lowest(above - cost * below, below);
    }

    private static boolean isMore(long[] a, long[] b) {
        return a[0] * b[1] > b[0] * a[1];
    }

    long has(int watcher, int part) {
        return bird(watcher) && (part == 0 || part == 1) ? hasOf(watcher)[part] : SkyWatchers.NO;
    }

    long found(int part) {
        if (part < 0 || part > 2) {
            return SkyWatchers.NO;
        }
        long above = 0;
        long below = 0;
        long missed = 0;
        for (int[] d : dead) {
            Result r = play(d[0], NONE, NONE);
            int first = 99;
            for (int i = 0; i < birds.size(); i++) {
                first = r.dropped[i] == null ? first : Math.min(first, comes(r, d[0], i));
            }
            above += first == 99 ? 0 : (long) d[1] * first;
            below += first == 99 ? 0 : d[1];
            missed += first == 99 ? d[1] : 0;
        }
        return part == 2 ? missed : below == 0 ? part : lowest(above, below)[part];
    }

    long good(int part) {
        if (part != 0 && part != 1) {
            return SkyWatchers.NO;
        }
        long[] sum = {0, 1};
        for (int i = 0; i < birds.size(); i++) {
            long[] has = hasOf(i);
            sum = lowest(sum[0] * has[1] + has[0] * sum[1], sum[1] * has[1]);
        }
        return sum[part];
    }

    int rather(int watcher) {
        if (!bird(watcher)) {
            return BAD;
        }
        Bird b = birds.get(watcher);
        int own = b.square;
        long[] most = hasOf(watcher);
        int best = NONE;
        for (int s = 0; s < 256; s++) {
            boolean beside = Math.abs((s & 15) - (own & 15)) + Math.abs((s >> 4) - (own >> 4)) == 1;
            if (!beside) {
                continue;
            }
            b.square = s;
            long[] has = hasOf(watcher);
            if (isMore(has, most)) {
                most = has;
                best = s;
            }
        }
        b.square = own;
        return best;
    }

    int rest(int n) {
        if (n < 0 || n > 3) {
            return BAD;
        }
        int turns = 0;
        boolean moved = true;
        while (turns < n && moved) {
            moved = false;
            for (int i = 0; i < birds.size() && !moved; i++) {
                int to = rather(i);
                if (to != NONE) {
                    birds.get(i).square = to;
                    turns++;
                    moved = true;
                }
            }
        }
        return turns;
    }

    int apart() {
        int sum = 0;
        for (Bird b : birds) {
            sum += birds.stream().filter(o -> o != b).mapToInt(o -> far(o.square, b.square)).min().orElse(0);
        }
        return sum;
    }

    int image() {
        keptSquares = new ArrayList<>();
        birds.forEach(b -> keptSquares.add(b.square));
        keptDead = new ArrayList<>(dead);
        keptMeat = meat;
        keptRule = rule;
        return birds.size();
    }

    int back() {
        if (keptSquares == null) {
            return STATE;
        }
        for (int i = 0; i < keptSquares.size(); i++) {
            birds.get(i).square = keptSquares.get(i);
        }
        dead = new ArrayList<>(keptDead);
        meat = keptMeat;
        rule = keptRule;
        return birds.size();
    }

    int count(int what) {
        int[] counts = {birds.size(), dead.size(), hidden.size(), texts.size(), tape.length(), rule, meat};
        return what < 0 || what >= counts.length ? BAD : counts[what];
    }

    // ---- the host

    int sheet(int sheet, int sort, int n) {
        if (sheet < 0 || sheet > 3 || sort < -1 || sort > 2 || sort != -1 && n > 40) {
            return BAD;
        }
        try {
            sheets[sheet] = sort == -1 ? null
                    : sort == 0 ? new byte[n] : sort == 1 ? new short[n] : new int[n];
            return 1;
        } catch (NegativeArraySizeException e) {
            return -14;
        }
    }

    int cell(int sheet, int i, int v) {
        if (sheet < 0 || sheet > 3) {
            return BAD;
        }
        try {
            Object row = sheets[sheet];
            if (row instanceof byte[]) {
                ((byte[]) row)[i] = (byte) v;
            } else if (row instanceof short[]) {
                ((short[]) row)[i] = (short) v;
            } else {
                ((int[]) row)[i] = v;
            }
            return 1;
        } catch (NullPointerException e) {
            return -11;
        } catch (ArrayIndexOutOfBoundsException e) {
            return -12;
        }
    }

    int copy(int sheet, int i, int other, int j, int n) {
        if (sheet < 0 || sheet > 3 || other < 0 || other > 3) {
            return BAD;
        }
        try {
            System.arraycopy(sheets[sheet], i, sheets[other], j, n);
            return n;
        } catch (NullPointerException e) {
            return -11;
        } catch (ArrayStoreException e) {
            return -13;
        } catch (IndexOutOfBoundsException e) {
            return -12;
        }
    }

    int watchers(int sheet, int sort, int from, int n) {
        if (sheet < 0 || sheet > 3 || sort < 0 || sort > 2 || n < 0 || n > 10) {
            return BAD;
        }
        try {
            Object row = sheets[sheet];
            Class<?>[] sorts = {byte[].class, short[].class, int[].class};
            sorts[sort].cast(row);
            int came = java.lang.reflect.Array.getLength(row) * 0;
            for (int k = 0; k < n; k++) {
                int[] three = new int[3];
                for (int t = 0; t < 3; t++) {
                    three[t] = java.lang.reflect.Array.getInt(row, from + 3 * k + t);
                }
                came += watcher(three[0], three[1], three[2]) >= 0 ? 1 : 0;
            }
            return came;
        } catch (ClassCastException e) {
            return -13;
        } catch (NullPointerException e) {
            return -11;
        } catch (ArrayIndexOutOfBoundsException e) {
            return -12;
        }
    }

    int taken(int watcher, int k) {
        if (k < 0 || k > 5) {
            return BAD;
        }
        if (!bird(watcher)) {
            return -11;
        }
        String[] lines = {"0", "01", "02", "013", "024", "025"};
        Bird b = birds.get(watcher);
        return lines[b.kind].indexOf('0' + k) >= 0 ? b.number : -13;
    }
}
