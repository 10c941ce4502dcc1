/** Counts the calls whose answer is not the one that is due, and prints them. */
final class Due {
    private final String name;
    private int asked = 0;
    private int wrong = 0;

    Due(String name) {
        this.name = name;
    }

    void is(String call, long got, long want) {
        asked++;
        if (got != want) {
            wrong++;
            if (wrong <= 50) {
                System.out.println(name + ": " + call + " answered " + got + ", due is " + want);
            }
        }
    }

    int asked() {
        return asked;
    }

    boolean hasWrong() {
        return wrong > 0;
    }

    /** Says how it went, and ends the program with 1 if an answer was wrong. */
    void end() {
        System.out.println(name + ": " + asked + " answers, " + wrong + " not as due");
        if (wrong != 0 || asked == 0) {
            System.exit(1);
        }
    }

    /** A new object with one watcher of each (kind, square, rest). */
    static SkyWatchers with(int... watchers) {
        SkyWatchers x = new SkyWatchers();
        for (int i = 0; i + 2 < watchers.length; i += 3) {
            x.watcher(watchers[i], watchers[i + 1], watchers[i + 2]);
        }
        return x;
    }

    /** Feeds the bytes of a text (characters 0 to 255) onto THE TAPE. */
    static void feed(SkyWatchers x, String text) {
        for (int from = 0; from < text.length(); from += 8) {
            int n = Math.min(8, text.length() - from);
            long bytes = 0;
            for (int i = 0; i < n; i++) {
                bytes |= (long) text.charAt(from + i) << 8 * i;
            }
            x.feed(n, bytes);
        }
    }

    /** Feeds a text and has it read: what text() answers. */
    static int text(SkyWatchers x, String text) {
        feed(x, text);
        return x.text();
    }

    /** Makes a text THE RULE: its number, or what text() answered if it is none. */
    static int rule(SkyWatchers x, String text) {
        int number = text(x, text);
        if (number >= 0) {
            x.force(number);
        }
        return number;
    }
}
