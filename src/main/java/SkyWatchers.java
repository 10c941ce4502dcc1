import java.util.ArrayList;
import java.util.Arrays;

/**
 * Watchers of kinds who hang over a plain, drop on what lies there or after those who dropped, and
 * part it. The words in capitals are the document's.
 */
public final class SkyWatchers {
    public static final int NONE = -1, BAD = -2, STATE = -3, FULL = -4;
    public static final long NO = -4611686018427387904L;

    private static final int NOT_TOLD = -5, MISSING = -11, OUTSIDE = -12, OTHER_SORT = -13;
    private static final int NEGATIVE = -14, FAULT = -100;

    private static final int SIDE = 16, SQUARES = 256, MIDDLE = 136;
    private static final int MOST_WATCHERS = 10, MOST_DEAD = 6, MOST_WEIGHT = 99, MOST_MEAT = 99;
    private static final int MOST_TEXTS = 6, MOST_TAPE = 160, MOST_TURNS = 3, MOST_COST = 999;
    private static final int SHEETS = 4, MOST_ITEMS = 40, BYTES = 0, SHORTS = 1, INTS = 2;
    private static final int LAST_MINUTE = 30, PARTED_MINUTES = 60;

    private static final int WATCHER = 0, DOWN = 1, SKY = 2, KEEN = 3, WARY = 4, LAZY = 5;

    /** The parts of a TEXT. */
    private static final int SEE = 0, TRUST = 1, COST = 2, PARTS = 3;

    /** Steps of a TEXT: below NAMED a NUMBER, from NAMED on a NAME, from OPERATOR on one of these. */
    private static final int NAMED = 10000, NAMES = 6, OPERATOR = 20000;

    /** The steps of: see 1 ; trust 1 ; cost 1 ; */
    private static final int[] FIRST_STEPS = {1, 1, 1};
    private static final int[] FIRST_ENDS = {1, 2, 3};

    /** The ways to squares beside one, the least square first. */
    private static final int[] BESIDE_X = {0, -1, 1, 0};
    private static final int[] BESIDE_Y = {-1, 0, 0, 1};

    private final ArrayList<Watcher> hanging = new ArrayList<>();
    private final boolean[] hidden = new boolean[SQUARES];
    private int meatNow = 20;
    private final int[] deadSquares = new int[MOST_DEAD];
    private final int[] deadWeights = new int[MOST_DEAD];
    private int deadCount = 0;
    private final ArrayList<Text> texts = new ArrayList<>();
    private Text rule = new Text(0, FIRST_STEPS, FIRST_ENDS);
    private final byte[] tape = new byte[MOST_TAPE];
    private int tapeSize = 0;
    private final Reader reader = new Reader(tape);
    private final Find shown = new Find(hanging);
    private Image kept = null;
    private final Sheet[] sheets = {new Sheet(), new Sheet(), new Sheet(), new Sheet()};

    public SkyWatchers() {
        texts.add(rule);
    }

    // ---- the plain, watchers

    public int hide(int square, int is) {
        if (!isSquare(square) || is < 0 || is > 1) {
            return BAD;
        }
        int was = hidden[square] ? 1 : 0;
        hidden[square] = is == 1;
        return was;
    }

    public int watcher(int kind, int square, int rest) {
        if (kind < WATCHER || kind > LAZY || !isSquare(square)) {
            return BAD;
        }
        if (rest < 0 || rest > 99 || rest % 10 == 0) {
            return BAD;
        }
        if (hanging.size() >= MOST_WATCHERS) {
            return FULL;
        }
        hanging.add(newWatcher(kind, square, rest / 10, rest % 10));
        return hanging.size() - 1;
    }

    public int hang(int watcher, int square) {
        if (!isWatcher(watcher) || !isSquare(square)) {
            return BAD;
        }
        Watcher w = hanging.get(watcher);
        int was = w.square;
        w.square = square;
        return was;
    }

    public int meat(int v) {
        if (v < 0 || v > MOST_MEAT) {
            return BAD;
        }
        int was = meatNow;
        meatNow = v;
        return was;
    }

    public int dead(int square, int weight) {
        if (!isSquare(square) || weight < 1 || weight > MOST_WEIGHT) {
            return BAD;
        }
        if (deadCount >= MOST_DEAD) {
            return FULL;
        }
        deadSquares[deadCount] = square;
        deadWeights[deadCount] = weight;
        deadCount++;
        return deadCount - 1;
    }

    public int told(int watcher, int what) {
        if (!isWatcher(watcher)) {
            return NOT_TOLD;
        }
        Watcher w = hanging.get(watcher);
        switch (what) {
            case 0: return w.kind();
            case 1: return w.square;
            case 2: return w.number;
            case 3: return w.speed;
            case 4: return w.looks();
            case 5: return w.gazes();
            case 6: return w.needs();
            case 7: return w.slow();
            case 8: return costOf(w);
            default: return NOT_TOLD;
        }
    }

    // ---- texts

    public int feed(int n, long bytes) {
        if (n < 1 || n > 8) {
            return BAD;
        }
        if (tapeSize + n > MOST_TAPE) {
            return FULL;
        }
        for (int i = 0; i < n; i++) {
            tape[tapeSize + i] = (byte) (bytes >>> 8 * i);
        }
        tapeSize += n;
        return tapeSize;
    }

    public int text() {
        if (texts.size() >= MOST_TEXTS) {
            return FULL;
        }
        int fault = reader.read(tapeSize);
        tapeSize = 0;
        if (fault != NONE) {
            return FAULT - fault;
        }
        texts.add(reader.newText(texts.size()));
        return texts.size() - 1;
    }

    public int force(int text) {
        if (text < 0 || text >= texts.size()) {
            return BAD;
        }
        int was = rule.place;
        rule = texts.get(text);
        return was;
    }

    // ---- finds

    public int find(int square, int watcher, int what) {
        if (!isSquare(square) || !isWatcher(watcher) || what < 0 || what > 4) {
            return BAD;
        }
        play(square, NONE, NONE);
        if (shown.dropped[watcher] == NONE) {
            return NONE;
        }
        switch (what) {
            case 0: return shown.dropped[watcher];
            case 1: return shown.comes[watcher];
            case 2: return shown.after[watcher];
            case 3: return shown.shares[watcher];
            default: return shown.trail(watcher);
        }
    }

    public int edge(int square) {
        if (!isSquare(square)) {
            return BAD;
        }
        play(square, NONE, NONE);
        return shown.byGround;
    }

    public int wasted(int watcher) {
        if (!isWatcher(watcher)) {
            return BAD;
        }
        play(hanging.get(watcher).square, watcher, NONE);
        return shown.othersDropped(watcher);
    }

    public int alone(int square, int watcher) {
        if (!isSquare(square) || !isWatcher(watcher)) {
            return BAD;
        }
        play(square, NONE, NONE);
        int with = shown.othersShares(watcher);
        play(square, NONE, watcher);
        return shown.othersShares(watcher) - with;
    }

    public int isTrue(int square, int sheet) {
        if (!isSquare(square) || !isSheet(sheet)) {
            return BAD;
        }
        Sheet row = sheets[sheet];
        if (row.isMissing()) {
            return MISSING;
        }
        if (row.size != hanging.size()) {
            return BAD;
        }
        play(square, NONE, NONE);
        for (int i = 0; i < hanging.size(); i++) {
            if (row.items[i] != shown.comes[i]) {
                return i;
            }
        }
        return NONE;
    }

    // ---- what each has

    public long has(int watcher, int part) {
        if (!isWatcher(watcher) || part < 0 || part > 1) {
            return NO;
        }
        return inLowestTerms(gainOf(watcher), weightOfAll(), part);
    }

    public long found(int part) {
        if (part < 0 || part > 2) {
            return NO;
        }
        int above = 0;
        int below = 0;
        int missed = 0;
        for (int d = 0; d < deadCount; d++) {
            play(deadSquares[d], NONE, NONE);
            int first = shown.firstComes();
            if (first == NONE) {
                missed += deadWeights[d];
            } else {
                above += deadWeights[d] * first;
                below += deadWeights[d];
            }
        }
        return part == 2 ? missed : inLowestTerms(above, Math.max(1, below), part);
    }

    public long good(int part) {
        if (part < 0 || part > 1) {
            return NO;
        }
        int above = 0;
        for (int i = 0; i < hanging.size(); i++) {
            above += gainOf(i);
        }
        return inLowestTerms(above, weightOfAll(), part);
    }

    public int rather(int watcher) {
        if (!isWatcher(watcher)) {
            return BAD;
        }
        return betterSquare(watcher);
    }

    public int rest(int n) {
        if (n < 0 || n > MOST_TURNS) {
            return BAD;
        }
        for (int turns = 0; turns < n; turns++) {
            int square = NONE;
            for (int i = 0; i < hanging.size() && square == NONE; i++) {
                square = betterSquare(i);
                if (square != NONE) {
                    hanging.get(i).square = square;
                }
            }
            if (square == NONE) {
                return turns;
            }
        }
        return n;
    }

    public int apart() {
        int sum = 0;
        for (int i = 0; i < hanging.size(); i++) {
            sum += farFromNearest(i);
        }
        return sum;
    }

    public int image() {
        if (kept == null) {
            kept = new Image();
        }
        for (int i = 0; i < hanging.size(); i++) {
            kept.squares[i] = hanging.get(i).square;
        }
        kept.watcherCount = hanging.size();
        kept.meat = meatNow;
        kept.rule = rule;
        kept.deadCount = deadCount;
        return hanging.size();
    }

    public int back() {
        if (kept == null || kept.rule == null) {
            return STATE;
        }
        for (int i = 0; i < kept.watcherCount && i < hanging.size(); i++) {
            hanging.get(i).square = kept.squares[i];
        }
        meatNow = kept.meat;
        rule = kept.rule;
        deadCount = kept.deadCount;
        return hanging.size();
    }

    public int count(int what) {
        switch (what) {
            case 0: return hanging.size();
            case 1: return deadCount;
            case 2: return hiddenCount();
            case 3: return texts.size();
            case 4: return tapeSize;
            case 5: return rule.place;
            case 6: return meatNow;
            default: return BAD;
        }
    }

    // ---- the host

    public int sheet(int sheet, int sort, int n) {
        if (!isSheet(sheet) || (sort != NONE && !isSort(sort))) {
            return BAD;
        }
        if (sort == NONE) {
            sheets[sheet].lay(NONE, 0);
            return 1;
        }
        if (n > MOST_ITEMS) {
            return BAD;
        }
        if (n < 0) {
            return NEGATIVE;
        }
        sheets[sheet].lay(sort, n);
        return 1;
    }

    public int cell(int sheet, int i, int v) {
        if (!isSheet(sheet)) {
            return BAD;
        }
        Sheet row = sheets[sheet];
        if (row.isMissing()) {
            return MISSING;
        }
        if (i < 0 || i >= row.size) {
            return OUTSIDE;
        }
        row.put(i, v);
        return 1;
    }

    public int copy(int sheet, int i, int other, int j, int n) {
        if (!isSheet(sheet) || !isSheet(other)) {
            return BAD;
        }
        Sheet from = sheets[sheet];
        Sheet to = sheets[other];
        if (from.isMissing() || to.isMissing()) {
            return MISSING;
        }
        if (from.sort != to.sort) {
            return OTHER_SORT;
        }
        if (!from.holds(i, n) || !to.holds(j, n)) {
            return OUTSIDE;
        }
        System.arraycopy(from.items, i, to.items, j, n);
        return n;
    }

    public int watchers(int sheet, int sort, int from, int n) {
        if (!isSheet(sheet) || !isSort(sort) || n < 0 || n > MOST_WATCHERS) {
            return BAD;
        }
        Sheet row = sheets[sheet];
        if (!row.isMissing() && row.sort != sort) {
            return OTHER_SORT;
        }
        if (row.isMissing()) {
            return MISSING;
        }
        int came = 0;
        int at = from;
        for (int k = 0; k < n; k++) {
            if (!row.holds(at, 3)) {
                return OUTSIDE;
            }
            if (watcher(row.items[at], row.items[at + 1], row.items[at + 2]) >= 0) {
                came++;
            }
            at += 3;
        }
        return came;
    }

    public int taken(int watcher, int k) {
        if (k < WATCHER || k > LAZY) {
            return BAD;
        }
        if (!isWatcher(watcher)) {
            return MISSING;
        }
        Watcher w = hanging.get(watcher);
        return isOfKind(w, k) ? w.number : OTHER_SORT;
    }

    // ---- what the calls above are made of

    private static boolean isSquare(int square) {
        return square >= 0 && square < SQUARES;
    }

    private static boolean isSheet(int sheet) {
        return sheet >= 0 && sheet < SHEETS;
    }

    private static boolean isSort(int sort) {
        return sort >= BYTES && sort <= INTS;
    }

    private boolean isWatcher(int watcher) {
        return watcher >= 0 && watcher < hanging.size();
    }

    private static int far(int square, int other) {
        int byX = Math.abs(square % SIDE - other % SIDE);
        int byY = Math.abs(square / SIDE - other / SIDE);
        return Math.max(byX, byY);
    }

    private static Watcher newWatcher(int kind, int square, int number, int speed) {
        switch (kind) {
            case DOWN: return new Down(square, number, speed);
            case SKY: return new Sky(square, number, speed);
            case KEEN: return new Keen(square, number, speed);
            case WARY: return new Wary(square, number, speed);
            case LAZY: return new Lazy(square, number, speed);
            default: return new Watcher(square, number, speed);
        }
    }

    private static boolean isOfKind(Watcher w, int k) {
        switch (k) {
            case DOWN: return w instanceof Down;
            case SKY: return w instanceof Sky;
            case KEEN: return w instanceof Keen;
            case WARY: return w instanceof Wary;
            case LAZY: return w instanceof Lazy;
            default: return true;
        }
    }

    private int hiddenCount() {
        int sum = 0;
        for (boolean is : hidden) {
            sum += is ? 1 : 0;
        }
        return sum;
    }

    private int costOf(Watcher w) {
        return Math.max(0, Math.min(MOST_COST, rule.value(COST, w, 0, 0, 0)));
    }

    /** Plays a FIND at a square to its end: one FAKES it, or NONE; one is not there, or NONE. */
    private void play(int square, int faker, int absent) {
        shown.begin(square, hidden[square], faker, absent);
        for (int minute = 0; minute <= LAST_MINUTE; minute++) {
            int ahead = shown.droppedAhead(minute);
            for (int i = 0; i < hanging.size(); i++) {
                shown.watch(i, minute, ahead, rule);
            }
        }
        shown.come();
        shown.part(meatNow);
    }

    /** What stands below the line of all that WATCHERS HAVE. */
    private int weightOfAll() {
        int sum = 0;
        for (int d = 0; d < deadCount; d++) {
            sum += deadWeights[d];
        }
        return Math.max(1, sum);
    }

    /** What stands above the line of what a WATCHER HAS, with weightOfAll() below. */
    private int gainOf(int watcher) {
        int sum = 0;
        for (int d = 0; d < deadCount; d++) {
            play(deadSquares[d], NONE, NONE);
            sum += deadWeights[d] * shown.shares[watcher];
        }
        return sum - weightOfAll() * costOf(hanging.get(watcher));
    }

    private static long inLowestTerms(long above, long below, int part) {
        long divisor = below;
        long left = Math.abs(above);
        // a bound that no pair of longs needs
        for (int i = 0; left != 0 && i < 100; i++) {
            long next = divisor % left;
            divisor = left;
            left = next;
        }
        if (divisor == 0) {
            return NO;
        }
        return part == 0 ? above / divisor : below / divisor;
    }

    /** RATHER of a WATCHER, which is put over each square for a while, to see what it has there. */
    private int betterSquare(int watcher) {
        Watcher w = hanging.get(watcher);
        int own = w.square;
        int most = gainOf(watcher);
        int better = NONE;
        for (int way = 0; way < BESIDE_X.length; way++) {
            int square = squareBeside(own, way);
            if (square == NONE) {
                continue;
            }
            w.square = square;
            int gain = gainOf(watcher);
            // the least square comes first, so a like one later doesn't count
            if (gain > most) {
                most = gain;
                better = square;
            }
        }
        w.square = own;
        return better;
    }

    private static int squareBeside(int square, int way) {
        int x = square % SIDE + BESIDE_X[way];
        int y = square / SIDE + BESIDE_Y[way];
        boolean stands = x >= 0 && x < SIDE && y >= 0 && y < SIDE;
        return stands ? y * SIDE + x : NONE;
    }

    private int farFromNearest(int watcher) {
        int nearest = NONE;
        int square = hanging.get(watcher).square;
        for (int i = 0; i < hanging.size(); i++) {
            int away = far(square, hanging.get(i).square);
            if (i != watcher && (nearest == NONE || away < nearest)) {
                nearest = away;
            }
        }
        return Math.max(0, nearest);
    }

    // ---- the kinds

    private static class Watcher {
        static final int LOOK = 3, GAZE = 4, NEED = 1, SLOW = 0;
        final int number;
        final int speed;
        int square;

        Watcher(int square, int number, int speed) {
            this.square = square;
            this.number = number;
            this.speed = speed;
        }

        int kind() {
            return WATCHER;
        }

        int looks() {
            return LOOK;
        }

        int gazes() {
            return GAZE;
        }

        int needs() {
            return NEED;
        }

        int slow() {
            return SLOW;
        }

        /** How many minutes it needs to come so far. */
        final int minutesFor(int away) {
            return speed < 1 ? 0 : (away + speed - 1) / speed;
        }
    }

    private static class Down extends Watcher {
        Down(int square, int number, int speed) {
            super(square, number, speed);
        }

        int kind() {
            return DOWN;
        }

        int looks() {
            return LOOK + number;
        }
    }

    private static class Sky extends Watcher {
        Sky(int square, int number, int speed) {
            super(square, number, speed);
        }

        int kind() {
            return SKY;
        }

        int looks() {
            return NONE;
        }

        int gazes() {
            return GAZE + number;
        }
    }

    private static final class Keen extends Down {
        Keen(int square, int number, int speed) {
            super(square, number, speed);
        }

        int kind() {
            return KEEN;
        }

        int looks() {
            return super.looks() + 2;
        }

        int gazes() {
            return super.gazes() / 2;
        }
    }

    private static final class Wary extends Sky {
        Wary(int square, int number, int speed) {
            super(square, number, speed);
        }

        int kind() {
            return WARY;
        }

        int needs() {
            return NEED + 1;
        }
    }

    private static final class Lazy extends Sky {
        Lazy(int square, int number, int speed) {
            super(square, number, speed);
        }

        int kind() {
            return LAZY;
        }

        int gazes() {
            return 2 * super.gazes();
        }

        int slow() {
            return SLOW + 2;
        }
    }

    // ---- a find

    /** A FIND, minute by minute; sets of WATCHERS are bits by their numbers. */
    private static final class Find {
        private final ArrayList<Watcher> watching;
        private final int[] away = new int[MOST_WATCHERS];
        private final int[] gazedAt = new int[MOST_WATCHERS];
        private final int[] dropped = new int[MOST_WATCHERS];
        private final int[] after = new int[MOST_WATCHERS];
        private final int[] comes = new int[MOST_WATCHERS];
        private final int[] shares = new int[MOST_WATCHERS];
        private final int[] queue = new int[MOST_WATCHERS];
        private boolean isHidden;
        private boolean isFake;
        private int seen;
        private int byGround;

        Find(ArrayList<Watcher> watching) {
            this.watching = watching;
        }

        void begin(int square, boolean isHiddenThere, int faker, int absent) {
            for (int i = 0; i < watching.size(); i++) {
                away[i] = far(watching.get(i).square, square);
                gazedAt[i] = othersGazedAt(i);
                dropped[i] = i == faker ? 0 : NONE;
                after[i] = NONE;
            }
            isHidden = isHiddenThere;
            isFake = faker != NONE;
            // one that is not there has no more to see, and never dropped
            seen = bit(faker) | bit(absent);
            byGround = 0;
        }

        private static int bit(int watcher) {
            return watcher == NONE ? 0 : 1 << watcher;
        }

        private int othersGazedAt(int watcher) {
            Watcher w = watching.get(watcher);
            int gaze = w.gazes();
            int others = 0;
            for (int i = 0; i < watching.size(); i++) {
                if (i != watcher && far(w.square, watching.get(i).square) <= gaze) {
                    others |= bit(i);
                }
            }
            return others;
        }

        int droppedAhead(int minute) {
            int ahead = 0;
            for (int i = 0; i < watching.size(); i++) {
                if (dropped[i] != NONE && dropped[i] < minute) {
                    ahead |= bit(i);
                }
            }
            return ahead;
        }

        /** One watches for a MINUTE, as others DROPPED ahead of it; who has SEEN is left alone. */
        void watch(int i, int minute, int ahead, Text rule) {
            if ((seen & bit(i)) != 0) {
                return;
            }
            Watcher w = watching.get(i);
            int counted = gazedAt[i] & ahead;
            int many = Integer.bitCount(counted);
            boolean inSight = !isFake && away[i] <= w.looks() && (!isHidden || away[i] <= 1);
            if (inSight && rule.value(SEE, w, away[i], minute, many) != 0) {
                byGround |= bit(i);
                drop(i, minute, NONE);
            } else if (many >= w.needs() && rule.value(TRUST, w, away[i], minute, many) != 0) {
                drop(i, minute, firstDropped(counted));
            }
        }

        private void drop(int i, int minute, int whom) {
            seen |= bit(i);
            after[i] = whom;
            int then = minute + watching.get(i).slow();
            dropped[i] = then <= LAST_MINUTE ? then : NONE;
        }

        private int firstDropped(int counted) {
            int first = NONE;
            for (int i = 0; i < watching.size(); i++) {
                boolean counts = (counted & bit(i)) != 0;
                if (counts && (first == NONE || dropped[i] < dropped[first])) {
                    first = i;
                }
            }
            return first;
        }

        void come() {
            for (int i = 0; i < watching.size(); i++) {
                boolean never = dropped[i] == NONE;
                comes[i] = never ? NONE : dropped[i] + watching.get(i).minutesFor(away[i]);
            }
        }

        void part(int meat) {
            for (int i = 0; i < watching.size(); i++) {
                shares[i] = 0;
            }
            int queued = queueUp();
            int left = meat;
            for (int minute = 0; minute < PARTED_MINUTES && left > 0; minute++) {
                for (int k = 0; k < queued && left > 0 && comes[queue[k]] <= minute; k++) {
                    shares[queue[k]]++;
                    left--;
                }
            }
        }

        /** Puts those who come in the order in which they have: how many they are. */
        private int queueUp() {
            int queued = 0;
            for (int i = 0; i < watching.size(); i++) {
                if (comes[i] == NONE) {
                    continue;
                }
                int at = queued;
                for (; at > 0 && comes[queue[at - 1]] > comes[i]; at--) {
                    queue[at] = queue[at - 1];
                }
                queue[at] = i;
                queued++;
            }
            return queued;
        }

        int trail(int watcher) {
            int steps = 0;
            int at = after[watcher];
            while (at != NONE && steps < MOST_WATCHERS) {
                steps++;
                at = after[at];
            }
            return steps;
        }

        int firstComes() {
            int first = NONE;
            for (int i = 0; i < watching.size(); i++) {
                if (comes[i] != NONE && (first == NONE || comes[i] < first)) {
                    first = comes[i];
                }
            }
            return first;
        }

        int othersDropped(int watcher) {
            int sum = 0;
            for (int i = 0; i < watching.size(); i++) {
                sum += i != watcher && dropped[i] != NONE ? 1 : 0;
            }
            return sum;
        }

        int othersShares(int watcher) {
            int sum = 0;
            for (int i = 0; i < watching.size(); i++) {
                sum += i != watcher ? shares[i] : 0;
            }
            return sum;
        }
    }

    // ---- texts

    /** A TEXT as steps for a stack: a number or a NAME comes on top, an operator takes from there. */
    private static final class Text {
        /** More than 5 that are open and one operator of each rank in each can need. */
        private static final int MOST_STACK = 40;
        private final int place;
        private final int[] steps;
        private final int[] ends;
        private final int[] names = new int[NAMES];
        private final int[] stack = new int[MOST_STACK];

        Text(int place, int[] steps, int[] ends) {
            this.place = place;
            this.steps = steps;
            this.ends = ends;
        }

        int value(int part, Watcher w, int away, int minute, int many) {
            names[0] = away;
            names[1] = minute;
            names[2] = many;
            names[3] = w.number;
            names[4] = far(w.square, MIDDLE);
            names[5] = w.kind();
            int top = 0;
            for (int k = part == 0 ? 0 : ends[part - 1]; k < ends[part]; k++) {
                int step = steps[k];
                if (step < NAMED + NAMES && top < MOST_STACK) {
                    stack[top] = step < NAMED ? step : names[step - NAMED];
                    top++;
                } else if (isUnary(step) && top >= 1) {
                    stack[top - 1] = unary(step, stack[top - 1]);
                } else if (top >= 2) {
                    top--;
                    stack[top - 1] = binary(step, stack[top - 1], stack[top]);
                }
            }
            return stack[0];
        }

        private static boolean isUnary(int step) {
            return step == Reader.NEGATE || step == OPERATOR + Reader.NOT;
        }

        private static int unary(int step, int v) {
            if (step == Reader.NEGATE) {
                return -v;
            }
            return v == 0 ? 1 : 0;
        }

        private static int binary(int step, int a, int b) {
            switch (step - OPERATOR) {
                case '+': return a + b;
                case '-': return a - b;
                case '*': return a * b;
                case '<': return a < b ? 1 : 0;
                case '=': return a == b ? 1 : 0;
                case Reader.OR: return a != 0 || b != 0 ? 1 : 0;
                default: return a != 0 && b != 0 ? 1 : 0;
            }
        }
    }

    /**
     * Reads a TEXT from a tape and lays down its steps. What reads a part of it answers whether it
     * stands there; if it doesn't, the token at hand is the one that can't.
     */
    private static final class Reader {
        /** Sorts of tokens; a sign is its own sort, a NAME its number from FIRST_NAME on. */
        private static final int END = 0, NUMBER = 1, WRONG = 2, FIRST_NAME = 100;
        private static final int SEE_KEY = 200, TRUST_KEY = 201, COST_KEY = 202;
        private static final int OR = 203, AND = 204, NOT = 205;
        private static final int NEGATE = OPERATOR + 300;
        private static final int MOST_OPEN = 5, MOST_DIGITS = 4;
        private static final String SIGNS = "();+-*<=";

        private final byte[] bytes;
        private int size;
        private int at;
        private int start;
        private int token;
        private int value;
        private final int[] steps = new int[MOST_TAPE];
        private int stepCount;
        private final int[] ends = new int[PARTS];

        Reader(byte[] bytes) {
            this.bytes = bytes;
        }

        /** Reads the first bytes: the place of the FAULT, or NONE. */
        int read(int newSize) {
            size = Math.min(newSize, bytes.length);
            at = 0;
            stepCount = 0;
            next();
            boolean stands = readPart(SEE_KEY, SEE) && readPart(TRUST_KEY, TRUST)
                    && readPart(COST_KEY, COST) && token == END;
            return stands ? NONE : start;
        }

        Text newText(int place) {
            return new Text(place, Arrays.copyOf(steps, stepCount), Arrays.copyOf(ends, PARTS));
        }

        private void lay(int step) {
            if (stepCount < steps.length) {
                steps[stepCount] = step;
                stepCount++;
            }
        }

        // ---- tokens

        private void next() {
            while (at < size && (bytes[at] == ' ' || bytes[at] == '\n')) {
                at++;
            }
            start = at;
            if (at >= size) {
                token = END;
            } else if (isLetter(bytes[at])) {
                readWord();
            } else if (isDigit(bytes[at])) {
                readNumber();
            } else {
                int sign = bytes[at] & 255;
                token = SIGNS.indexOf((char) sign) >= 0 ? sign : WRONG;
                at++;
            }
        }

        private static boolean isLetter(byte b) {
            return b >= 'a' && b <= 'z';
        }

        private static boolean isDigit(byte b) {
            return b >= '0' && b <= '9';
        }

        private void readNumber() {
            value = 0;
            while (at < size && isDigit(bytes[at])) {
                value = value * 10 + bytes[at] - '0';
                at++;
            }
            token = at - start <= MOST_DIGITS ? NUMBER : WRONG;
        }

        private void readWord() {
            while (at < size && isLetter(bytes[at])) {
                at++;
            }
            if (isWord("far")) {
                token = FIRST_NAME;
            } else if (isWord("minute")) {
                token = FIRST_NAME + 1;
            } else if (isWord("dropped")) {
                token = FIRST_NAME + 2;
            } else if (isWord("number")) {
                token = FIRST_NAME + 3;
            } else if (isWord("hung")) {
                token = FIRST_NAME + 4;
            } else if (isWord("kind")) {
                token = FIRST_NAME + 5;
            } else if (isWord("see")) {
                token = SEE_KEY;
            } else if (isWord("trust")) {
                token = TRUST_KEY;
            } else if (isWord("cost")) {
                token = COST_KEY;
            } else if (isWord("or")) {
                token = OR;
            } else if (isWord("and")) {
                token = AND;
            } else if (isWord("not")) {
                token = NOT;
            } else {
                token = WRONG;
            }
        }

        private boolean isWord(String word) {
            if (word.length() != at - start) {
                return false;
            }
            for (int i = 0; i < word.length(); i++) {
                if (bytes[start + i] != word.charAt(i)) {
                    return false;
                }
            }
            return true;
        }

        // ---- the grammar: open tells how many of ( , not and - are open

        private boolean readPart(int key, int part) {
            if (token != key) {
                return false;
            }
            next();
            if (!readE(0) || token != ';') {
                return false;
            }
            ends[part] = stepCount;
            next();
            return true;
        }

        private boolean readE(int open) {
            boolean stands = readAnd(open);
            for (int i = 0; stands && token == OR && i < MOST_TAPE; i++) {
                next();
                stands = readAnd(open);
                lay(OPERATOR + OR);
            }
            return stands;
        }

        private boolean readAnd(int open) {
            boolean stands = readNot(open);
            for (int i = 0; stands && token == AND && i < MOST_TAPE; i++) {
                next();
                stands = readNot(open);
                lay(OPERATOR + AND);
            }
            return stands;
        }

        private boolean readNot(int open) {
            if (token == NOT) {
                if (open >= MOST_OPEN) {
                    return false;
                }
                next();
                boolean stands = readNot(open + 1);
                lay(OPERATOR + NOT);
                return stands;
            }
            boolean stands = readSum(open);
            if (stands && (token == '<' || token == '=')) {
                int sign = token;
                next();
                stands = readSum(open);
                lay(OPERATOR + sign);
            }
            return stands;
        }

        private boolean readSum(int open) {
            boolean stands = readTerm(open);
            for (int i = 0; stands && (token == '+' || token == '-') && i < MOST_TAPE; i++) {
                int sign = token;
                next();
                stands = readTerm(open);
                lay(OPERATOR + sign);
            }
            return stands;
        }

        private boolean readTerm(int open) {
            boolean stands = readOne(open);
            for (int i = 0; stands && token == '*' && i < MOST_TAPE; i++) {
                next();
                stands = readOne(open);
                lay(OPERATOR + '*');
            }
            return stands;
        }

        private boolean readOne(int open) {
            if (token == NUMBER) {
                lay(value);
                next();
                return true;
            }
            if (token >= FIRST_NAME && token < FIRST_NAME + NAMES) {
                lay(NAMED + token - FIRST_NAME);
                next();
                return true;
            }
            if ((token != '-' && token != '(') || open >= MOST_OPEN) {
                return false;
            }
            return token == '-' ? readMinus(open) : readParens(open);
        }

        private boolean readMinus(int open) {
            next();
            boolean stands = readOne(open + 1);
            lay(NEGATE);
            return stands;
        }

        private boolean readParens(int open) {
            next();
            if (!readE(open + 1) || token != ')') {
                return false;
            }
            next();
            return true;
        }
    }

    // ---- what is kept

    /** AN IMAGE. */
    private static final class Image {
        private final int[] squares = new int[MOST_WATCHERS];
        private int watcherCount;
        private int meat;
        private Text rule;
        private int deadCount;
    }

    /** A SHEET; its items are kept as what is left of them in its sort. */
    private static final class Sheet {
        private final int[] items = new int[MOST_ITEMS];
        private int sort = NONE;
        private int size = 0;

        boolean isMissing() {
            return sort == NONE;
        }

        void lay(int newSort, int newSize) {
            sort = newSort;
            size = newSize;
            Arrays.fill(items, 0);
        }

        boolean holds(int from, int n) {
            return from >= 0 && n >= 0 && from <= size - n;
        }

        void put(int i, int v) {
            if (sort == BYTES) {
                items[i] = (byte) v;
            } else if (sort == SHORTS) {
                items[i] = (short) v;
            } else {
                items[i] = v;
            }
        }
    }
}
