/** The bounds of THE TAPE, of TOKENS and TEXTS, of FAULTS and values; promises 8 to 10. */
public final class TextBoundsTest {
    private static final int BAD = SkyWatchers.BAD, FULL = SkyWatchers.FULL;
    private static final int LEAST = Integer.MIN_VALUE, GREATEST = Integer.MAX_VALUE;
    private static final String FIRST = "see 1;trust 1;cost 1;";
    private static final String[] NAMES = {"far", "minute", "dropped", "number", "hung", "kind"};
    private static final String[] KEYS = {"see", "trust", "cost", "or", "and", "not"};

    /** The least int and the greatest, as sums. */
    private static final String MIN = "256*256*256*128", MAX = "(256*256*256*128-1)";
    private static final Due due = new Due("TextBoundsTest");

    public static void main(String[] args) {
        feedTakes1To8Bytes();
        theLowestBytesComeTheLowestFirst();
        theTapeHas160BytesAtMost();
        feedIsBadAheadOfFull();
        aTextOf160Bytes();
        textEmptiesTheTape();
        sixTextsAtMost();
        fullIsAheadOfAllFaults();
        forceTakesTextsThatThereAre();
        text0IsTheRuleAtFirst();
        tokensBehindAText();
        tokensAheadOfAText();
        tokensBetweenAKeyAndANumber();
        tokensBetweenNumbers();
        tokensAreAsLongAsCanBe();
        wordsAreKeysOrNames();
        numbersHave4DigitsAtMost();
        keysInTheirPlacesAlone();
        aTextHasThreeParts();
        aTextThatEndsTooEarly();
        atMostOneComparison();
        fiveAreOpenAtMost();
        whatEndedIsOpenNoMore();
        anEIsAnIntThatWraps();
        whatIsNot0IsTrue();
        costIs0To999();
        namesInCost();
        namesInSeeAndTrust();
        due.end();
    }

    private static void value(String e, long want) {
        SkyWatchers x = Due.with(4, 0, 37);
        due.is("text() of cost " + e, Due.rule(x, "see 1;trust 1;cost " + e + ";"), 1);
        due.is("cost " + e, x.told(0, 8), want);
    }

    private static void fault(String text, int place) {
        SkyWatchers x = new SkyWatchers();
        due.is("text() of " + text, Due.text(x, text), -100 - place);
        due.is("count(3) behind " + text, x.count(3), 1);
        due.is("count(4) behind " + text, x.count(4), 0);
    }

    private static void stands(String text) {
        due.is("text() of " + text, Due.text(new SkyWatchers(), text), 1);
    }

    // ---- feed: the n lowest bytes, 1 .. 8; THE TAPE has 160 at most

    private static void feedTakes1To8Bytes() {
        for (int n = 1; n <= 8; n++) {
            SkyWatchers x = new SkyWatchers();
            due.is("feed(" + n + ")", x.feed(n, -1L), n);
            due.is("count(4)", x.count(4), n);
            due.is("feed(" + n + ")", x.feed(n, Long.MIN_VALUE), 2 * n);
            due.is("feed(" + n + ")", x.feed(n, Long.MAX_VALUE), 3 * n);
        }
        for (int n : new int[] {LEAST, -256, -8, -1, 0, 9, 10, 16, 257, 65537, GREATEST}) {
            Still.refused(due, "feed(" + n + ")", x -> x.feed(n, 0x2020202020202020L), BAD);
        }
    }

    private static void theLowestBytesComeTheLowestFirst() {
        // 7 blanks and a byte that begins none: its place tells where it stands, if it came
        for (int n = 1; n <= 8; n++) {
            for (int place = 0; place < 8; place++) {
                for (int bad : new int[] {0, 1, 127, 128, 255}) {
                    long bytes = 0x2020202020202020L & ~(255L << 8 * place) | (long) bad << 8 * place;
                    SkyWatchers x = new SkyWatchers();
                    due.is("feed(" + n + ", ..)", x.feed(n, bytes), n);
                    due.is("text(): " + bad + " at " + place + " of " + n, x.text(),
                            place < n ? -100 - place : -100 - n);
                }
            }
        }
        // of the least long the highest byte is 128 and all others are 0, of the greatest 127 and 255
        SkyWatchers x = new SkyWatchers();
        due.is("feed(7, 8 blanks)", x.feed(7, 0x2020202020202020L), 7);
        due.is("feed(1, the least long)", x.feed(1, Long.MIN_VALUE), 8);
        due.is("text()", x.text(), -107);
        due.is("feed(8, 'see 1;tr')", x.feed(8, 0x72743b3120656573L), 8);
        due.is("feed(7, 'ust 1;c')", x.feed(7, 0x7f633b3120747375L), 15);
        due.is("feed(1, 'o'), below much else", x.feed(1, 0x7fffffffffffff6fL), 16);
        due.is("feed(2, 'st'), below much else", x.feed(2, 0x8000000000007473L), 18);
        due.is("feed(3, '1; ')", x.feed(3, 0xffffffffff203b31L), 21);
        due.is("text()", x.text(), 1);
    }

    private static void blanks(SkyWatchers x, int n) {
        for (int left = n; left > 0; left -= 8) {
            x.feed(Math.min(8, left), 0x2020202020202020L);
        }
    }

    private static void theTapeHas160BytesAtMost() {
        for (int n = 1; n <= 8; n++) {
            int fed = n;
            SkyWatchers x = new SkyWatchers();
            blanks(x, 160 - n);
            due.is("feed(" + n + ") to the end", x.feed(n, 0), 160);
            due.is("count(4)", x.count(4), 160);
            due.is("text(): the first of the last bytes", x.text(), -100 - (160 - n));
            Still.refused(due, y -> blanks(y, 161 - fed), "feed(" + n + ") one too long", y -> y.feed(fed, 0), FULL);
            Still.refused(due, y -> blanks(y, 160), "feed(" + n + ") of a full one", y -> y.feed(fed, 0), FULL);
        }
        // what was refused didn't come in part: the rest of the room is there still
        SkyWatchers x = new SkyWatchers();
        blanks(x, 153);
        due.is("feed(8)", x.feed(8, -1), FULL);
        due.is("feed(7)", x.feed(7, 0x20202020202020L), 160);
        due.is("text()", x.text(), -260);
        due.is("feed(8): all room is there again", x.feed(8, 0), 8);
    }

    private static void feedIsBadAheadOfFull() {
        for (int n : new int[] {LEAST, -1, 0, 9, GREATEST}) {
            Still.refused(due, y -> blanks(y, 160), "feed(" + n + ") of a full one", y -> y.feed(n, 0), BAD);
            Still.refused(due, y -> blanks(y, 159), "feed(" + n + ") of a nearly full one", y -> y.feed(n, 0), BAD);
        }
    }

    private static void aTextOf160Bytes() {
        stands("see " + "1+".repeat(69) + "1;trust 1;cost 1;");
        stands(" ".repeat(160 - FIRST.length()) + FIRST);
        stands(FIRST + "\n".repeat(160 - FIRST.length()));
        value("+1".repeat(67).substring(1), 67);
        value("1" + "*(1)".repeat(34), 1);
        fault(" ".repeat(160), 160);
        fault(" ".repeat(159) + "x", 159);
        fault("see " + "1+".repeat(78), 160);
        fault("see " + "1+".repeat(70) + "1;trust 1;cost 1", 160);
        fault("see " + "1 ".repeat(78), 6);
        fault("s".repeat(160), 0);
        fault("see " + "1".repeat(156), 4);
        fault(FIRST + " ".repeat(160 - FIRST.length() - 1) + ";", 159);
        // a short TEXT isn't read on into what a longer one left behind it
        SkyWatchers x = new SkyWatchers();
        due.is("text() of 160 bytes", Due.text(x, FIRST + " ".repeat(160 - FIRST.length())), 1);
        due.is("text()", Due.text(x, "see 1;trust 1;"), -114);
        due.is("text()", Due.text(x, "see"), -103);
        due.is("text()", x.text(), -100);
    }

    private static void textEmptiesTheTape() {
        SkyWatchers x = new SkyWatchers();
        due.is("text() of nothing", x.text(), -100);
        due.is("text()", Due.text(x, FIRST), 1);
        due.is("count(4) behind a TEXT", x.count(4), 0);
        due.is("text(): nothing is left", x.text(), -100);
        due.is("text() by a FAULT", Due.text(x, "see 1 1"), -106);
        due.is("count(4) behind a FAULT", x.count(4), 0);
        due.is("text(): nothing is left", x.text(), -100);
        due.is("count(3)", x.count(3), 2);
        due.is("count(5): a TEXT isn't THE RULE by itself", x.count(5), 0);
    }

    // ---- 6 TEXTS at most

    private static void sixTexts(SkyWatchers x) {
        x.watcher(0, 136, 1);
        for (int i = 1; i <= 5; i++) {
            Due.text(x, "see 1;trust 1;cost " + 100 * i + ";");
        }
    }

    private static void sixTextsAtMost() {
        SkyWatchers x = Due.with(0, 136, 1);
        for (int i = 1; i <= 5; i++) {
            due.is("count(3)", x.count(3), i);
            due.is("text()", Due.text(x, "see 1;trust 1;cost " + 100 * i + ";"), i);
            // a FAULT needs no room
            due.is("text()", Due.text(x, "see"), i == 5 ? FULL : -103);
        }
        due.is("count(3)", x.count(3), 6);
        int was = 0;
        for (int i = 5; i >= 0; i--) {
            due.is("force(" + i + ")", x.force(i), was);
            due.is("told(0, 8)", x.told(0, 8), i == 0 ? 1 : 100 * i);
            was = i;
        }
    }

    private static void fullIsAheadOfAllFaults() {
        String[] tapes = {"", FIRST, "x", "see 1", " ".repeat(160)};
        for (String tape : tapes) {
            Still.refused(due, x -> {
                sixTexts(x);
                Due.feed(x, tape);
            }, "text() of a seventh: " + tape, x -> x.text(), FULL);
        }
        SkyWatchers x = new SkyWatchers();
        sixTexts(x);
        Due.feed(x, "see 1");
        due.is("text()", x.text(), FULL);
        due.is("count(4): THE TAPE stays", x.count(4), 5);
        due.is("feed(1, ..)", x.feed(1, ';'), 6);
        due.is("text()", x.text(), FULL);
        due.is("count(3)", x.count(3), 6);
    }

    private static void forceTakesTextsThatThereAre() {
        for (int text : new int[] {LEAST, -256, -1, 6, 7, 256, 65536, GREATEST}) {
            Still.refused(due, TextBoundsTest::sixTexts, "force(" + text + ") of six", x -> x.force(text), BAD);
        }
        for (int text : new int[] {LEAST, -1, 3, 4, 5, GREATEST}) {
            Still.refused(due, "force(" + text + ") of three", x -> x.force(text), BAD);
        }
        SkyWatchers x = new SkyWatchers();
        due.is("force(1) of one", x.force(1), BAD);
        due.is("force(0) of one", x.force(0), 0);
        Due.text(x, "see 1;trust 1;cost");
        due.is("force(1): a FAULT is no TEXT", x.force(1), BAD);
        Due.text(x, FIRST);
        due.is("force(1)", x.force(1), 0);
        due.is("force(1)", x.force(1), 1);
        due.is("force(0)", x.force(0), 1);
    }

    private static void text0IsTheRuleAtFirst() {
        SkyWatchers x = Due.with(0, 136, 1, 0, 140, 1, 0, 15, 91);
        due.is("count(3)", x.count(3), 1);
        due.is("count(5)", x.count(5), 0);
        for (int i = 0; i < 3; i++) {
            due.is("told(" + i + ", 8)", x.told(i, 8), 1);
        }
        due.is("edge(136): see 1", x.edge(136), 1);
        due.is("find(136, 1, 2): trust 1", x.find(136, 1, 2), 0);
        due.is("has(0, 0): cost 1", x.has(0, 0), -1);
    }

    // ---- TOKENS: each of all bytes in each place

    private static boolean isBlank(int b) {
        return b == 32 || b == 10;
    }

    private static boolean isLetter(int b) {
        return b >= 97 && b <= 122;
    }

    private static boolean isDigit(int b) {
        return b >= 48 && b <= 57;
    }

    private static int readWith(String ahead, int b, String behind) {
        return Due.text(new SkyWatchers(), ahead + (char) b + behind);
    }

    private static void tokensBehindAText() {
        for (int b = 0; b < 256; b++) {
            due.is("text(): byte " + b + " behind", readWith(FIRST, b, ""), isBlank(b) ? 1 : -121);
        }
    }

    private static void tokensAheadOfAText() {
        for (int b = 0; b < 256; b++) {
            due.is("text(): byte " + b + " ahead", readWith("", b, FIRST), isBlank(b) ? 1 : -100);
        }
    }

    private static void tokensBetweenAKeyAndANumber() {
        for (int b = 0; b < 256; b++) {
            int want = -103;
            if (isBlank(b) || isDigit(b) || b == '-') {
                want = 1;
            } else if (isLetter(b)) {
                want = -100;
            } else if (b == '(') {
                want = -105;
            }
            due.is("text(): byte " + b + " behind see", readWith("see", b, "1;trust 1;cost 1;"), want);
        }
    }

    private static void tokensBetweenNumbers() {
        for (int b = 0; b < 256; b++) {
            int want = -105;
            if (isDigit(b) || "+-*<=".indexOf((char) b) >= 0) {
                want = 1;
            } else if (isBlank(b) || b == ';') {
                want = -106;
            }
            due.is("text(): byte " + b + " between", readWith("see 1", b, "1;trust 1;cost 1;"), want);
        }
    }

    private static void tokensAreAsLongAsCanBe() {
        fault("see notfar;trust 1;cost 1;", 4);
        fault("see not1or1;trust1;cost1", 24);
        stands("see not1or1and1;trust1;cost1;");
        stands("see1or not1;trust-1-1;cost(1)or(1);");
        fault("see 1orr 1;", 5);
        fault("see far far;", 8);
        fault("see far1;", 7);
        fault("see 1far;", 5);
        fault("see 12 34;", 7);
        fault("seesee 1;", 0);
        fault("see 1;trust1;costs 1;", 13);
    }

    private static void wordsAreKeysOrNames() {
        for (String name : NAMES) {
            stands("see " + name + ";trust " + name + ";cost " + name + ";");
            notAWord(name);
        }
        for (String key : KEYS) {
            // a KEY is a WORD that can't stand for a ONE, but not has one behind it
            fault("see " + key + ";", key.equals("not") ? 7 : 4);
            notAWord(key);
        }
        fault("see " + "a".repeat(100) + ";", 4);
        fault("see a;", 4);
        fault("see z;", 4);
    }

    private static void notAWord(String word) {
        int last = word.length() - 1;
        fault("see " + word.substring(0, last) + " 1;", 4);
        fault("see " + word.substring(1) + " 1;", 4);
        fault("see " + word + word.charAt(last) + " 1;", 4);
        fault("see " + word.charAt(0) + word + " 1;", 4);
        fault("see z" + word.substring(1) + ";", 4);
        fault("see " + word.toUpperCase() + " 1;", 4);
        fault("see 1+" + word.charAt(0) + "z" + word.substring(2) + ";", 6);
        fault("see 1+" + word.substring(0, last) + "z;", 6);
    }

    private static void numbersHave4DigitsAtMost() {
        for (String number : new String[] {"0", "9", "10", "99", "100", "999"}) {
            value(number, Integer.parseInt(number));
        }
        value("1000=999+1", 1);
        value("9999=3333*3", 1);
        value("0000", 0);
        value("0007", 7);
        value("0999", 999);
        for (String number : new String[] {"00000", "00001", "10000", "99999", "2147483648", "1".repeat(99)}) {
            fault("see " + number + ";trust 1;cost 1;", 4);
            fault("see 1;trust 1;cost 1+" + number + ";", 21);
            fault("see 1;trust 1;cost 1;" + number, 21);
        }
    }

    // ---- TEXT: see E ; trust E ; cost E ;

    /** Each WORD in each place where one could stand: KEYS in their own alone. */
    private static void keysInTheirPlacesAlone() {
        String[] words = {"far", "minute", "dropped", "number", "hung", "kind", "see", "trust", "cost", "or", "and", "not"};
        for (int w = 0; w < words.length; w++) {
            String word = words[w];
            if (w != 6) {
                fault(word + " 1;trust 1;cost 1;", 0);
            }
            if (w != 7) {
                fault("see 1;" + word + " 1;cost 1;", 6);
            }
            if (w != 8) {
                fault("see 1;trust 1;" + word + " 1;", 14);
            }
            fault(FIRST + word, 21);
            boolean joins = word.equals("or") || word.equals("and");
            String between = "see 1 " + word + " 1;trust 1 " + word + " 1;cost 1 " + word + " 1;";
            if (joins) {
                stands(between);
            } else {
                fault(between, 6);
            }
            // where a NOT begins, where a SUM does, where a ONE does
            if (w < 6) {
                stands("see " + word + ";trust 1<" + word + ";cost 1*" + word + ";");
            } else {
                fault("see " + word + " 1 1;", word.equals("not") ? 10 : 4);
                fault("see 1<" + word + " 1;", 6);
                fault("see 1*" + word + " 1;", 6);
                fault("see -" + word + " 1;", 5);
            }
        }
    }

    private static void aTextHasThreeParts() {
        stands(FIRST);
        fault("trust 1;cost 1;", 0);
        fault("cost 1;", 0);
        fault("see 1;cost 1;", 6);
        fault("see 1;trust 1;see 1;", 14);
        fault("see 1;trust 1;trust 1;", 14);
        fault("see 1;see 1;trust 1;cost 1;", 6);
        fault(FIRST + "see 1;", 21);
        fault(FIRST + ";", 21);
        fault(FIRST + "cost 1;", 21);
        fault("see;trust 1;cost 1;", 3);
        fault("see 1;trust;cost 1;", 11);
        fault("see 1;trust 1;cost;", 18);
        fault("see 1,trust 1;cost 1;", 5);
    }

    /** A TEXT that is cut behind each of its bytes ends too early, or within a WORD. */
    private static void aTextThatEndsTooEarly() {
        String text = " see ( far ) + - 1 ; trust not 1 < 2 and 1 or 3 * 4 ; cost 1 = 1 ; ";
        stands(text);
        stands(text.substring(0, text.length() - 1));
        for (int size = 0; size < text.length() - 1; size++) {
            int begin = size;
            while (begin > 0 && isLetter(text.charAt(begin - 1))) {
                begin--;
            }
            boolean cutsAWord = begin < size && isLetter(text.charAt(size));
            fault(text.substring(0, size), cutsAWord ? begin : size);
        }
    }

    /** SUM, perhaps < or = and a SUM. */
    private static void atMostOneComparison() {
        String[] signs = {"<", "="};
        for (String one : signs) {
            stands("see 1" + one + "1;trust 1;cost 1;");
            fault("see " + one + "1;", 4);
            fault("see 1" + one + ";", 6);
            for (String two : signs) {
                fault("see 1" + one + "1" + two + "1;", 7);
                fault("see 1" + one + two + "1;", 6);
                fault("see 1+1" + one + "1*1" + two + "1;", 11);
                stands("see(1" + one + "1)" + two + "1;trust 1" + two + "(1" + one + "1);cost 1;");
                stands("see 1" + one + "1 and 1" + two + "1 or 1" + two + "1;trust 1;cost 1;");
                fault("see not 1" + one + "1" + two + "1;", 11);
            }
        }
    }

    // ---- while 5 of these are open

    /** All ways to open some, one after another. */
    private static void fiveAreOpenAtMost() {
        String[] openers = {"(", "not ", "-"};
        int[] ways = {1, 3, 9, 27, 81, 243, 729};
        for (int many = 0; many <= 6; many++) {
            for (int way = 0; way < ways[many]; way++) {
                open(many, way, openers);
            }
        }
    }

    private static void open(int many, int way, String[] openers) {
        StringBuilder text = new StringBuilder("see ");
        StringBuilder end = new StringBuilder();
        int fault = -1;
        boolean afterMinus = false;
        for (int i = 0, left = way; i < many; i++, left /= 3) {
            String opener = openers[left % 3];
            // a not can't stand for a ONE, and a sixth that is open can't stand at all
            if (fault < 0 && (i == 5 || afterMinus && opener.equals("not "))) {
                fault = text.length();
            }
            afterMinus = opener.equals("-");
            text.append(opener);
            end.append(opener.equals("(") ? ")" : "");
        }
        text.append("1").append(end).append(";trust 1;cost 1;");
        if (fault < 0) {
            stands(text.toString());
        } else {
            fault(text.toString(), fault);
        }
    }

    private static void whatEndedIsOpenNoMore() {
        // a ( till its )
        stands("see (((((1)))))+(((((1)))));trust((((1))+((1))));cost 1;");
        fault("see (((((1))))+(((((1)))));", 19);
        fault("see ((((1)))+(((((1)))));", 17);
        stands("see (((((1))))+((((1)))));trust ((((1)))+((((1)))));cost 1;");
        stands("see ((((1)))+(((1))));trust 1;cost 1;");
        // a - till the ONE that it belongs to ends
        stands("see -----1+-----1*-----1--1;trust -----1<-----1;cost 1;");
        stands("see -----1*(((((1)))));trust -(-(-1)+(((1))));cost 1;");
        fault("see -(-(-1+((1))));", 12);
        stands("see -(-(-1*(1)));trust 1;cost 1;");
        // a not till the NOT that it belongs to ends: < and = stand inside of it, and and or behind
        stands("see not not not not not 1<1 and(((((1)))));trust 1;cost 1;");
        stands("see not not not not not 1 or not not not not not 1;trust 1;cost 1;");
        fault("see not not not not not 1<(1);", 26);
        fault("see not not not not not 1=-1;", 26);
        fault("see not not not not not 1+(1);", 26);
        fault("see not not not not not 1*(1);", 26);
        fault("see not not not not not -1;", 24);
        stands("see not not not not -1+(1)*-1<-1;trust 1;cost 1;");
        fault("see not not not not -1+((1));", 24);
        stands("see not not not not 1 and not(not not not 1)and not(not 1)and((1));trust 1;cost 1;");
        // parts begin with none open
        stands("see (((((1)))));trust (((((1)))));cost -----1;");
        // a - between two isn't ahead of a ONE
        stands("see 1-1-1-1-1-1-1;trust (((((1-1-1)))));cost not not not not not 1-1;");
    }

    // ---- an E is an int (32 bits, wrapping); of or, and, not, <, = 1 or 0

    private static void anEIsAnIntThatWraps() {
        value(MIN + "<0", 1);
        value("0<" + MAX, 1);
        value(MAX + "+1=" + MIN, 1);
        value(MIN + "-1=" + MAX, 1);
        value("0-" + MIN + "=" + MIN, 1);
        value("-(" + MIN + ")=" + MIN, 1);
        value("-" + MAX + "-1=" + MIN, 1);
        value(MIN + "*-1=" + MIN, 1);
        value(MAX + "*" + MAX, 1);
        value("(" + MIN + ")*(" + MIN + ")", 0);
        value(MAX + "+" + MAX + "+3", 1);
        value("256*256*256*256+5", 5);
        // a comparison is none by a difference
        value(MIN + "<" + MAX, 1);
        value(MAX + "<" + MIN, 0);
        value(MIN + "<1", 1);
        value("0-2<" + MAX, 1);
        value(MIN + "=" + MAX, 0);
        value(MIN + "<" + MIN, 0);
        value(MAX + "<" + MAX, 0);
        value(MIN + "=" + MIN, 1);
        value("1<2", 1);
        value("2<2", 0);
        value("3<2", 0);
        value("0-1<0", 1);
        value("1=2", 0);
        value("2=2", 1);
    }

    private static void whatIsNot0IsTrue() {
        String[] truths = {"1", "2", "9999", "(0-1)", "(" + MIN + ")", MAX, "256*256"};
        for (String t : truths) {
            value("not " + t, 0);
            value("not not " + t, 1);
            value("(not " + t + ")+7", 7);
            value(t + " and " + t, 1);
            value(t + " or 0", 1);
            value("0 or " + t, 1);
            value(t + " or " + t, 1);
            value(t + " and 0", 0);
            value("0 and " + t, 0);
        }
        value("not 0", 1);
        value("not 256*256*256*256", 1);
        value("0 or 0", 0);
        value("0 and 0", 0);
        value("2 and 1", 1);
        // see and trust count by what is not 0, too
        String[] ways = {"0", "1", "-1", "2", MIN, MAX, "256*256*256*256"};
        for (String way : ways) {
            int is = way.equals("0") || way.equals("256*256*256*256") ? 0 : 1;
            SkyWatchers x = Due.with(0, 0, 1, 0, 4, 1);
            due.is("rule", Due.rule(x, "see " + way + ";trust 1;cost 1;"), 1);
            due.is("edge(0): see " + way, x.edge(0), is);
            due.is("rule", Due.rule(x, "see 1;trust " + way + ";cost 1;"), 2);
            due.is("edge(0)", x.edge(0), 1);
            due.is("find(0, 1, 2): trust " + way, x.find(0, 1, 0), is == 1 ? 1 : SkyWatchers.NONE);
        }
    }

    // ---- cost: 0 .. 999, else the bound; far, minute, dropped 0

    private static void costIs0To999() {
        value("0", 0);
        value("1", 1);
        value("998", 998);
        value("999", 999);
        value("1000", 999);
        value("9999", 999);
        value("-1", 0);
        value("-999", 0);
        value(MIN, 0);
        value(MIN + "+1", 0);
        value(MAX, 999);
        value("256*256*256*256", 0);
        // the bound stands for HAS as for told
        SkyWatchers x = Due.with(0, 136, 1);
        Due.rule(x, "see 1;trust 1;cost " + MAX + ";");
        due.is("has(0, 0)", x.has(0, 0), -999);
        due.is("good(0)", x.good(0), -999);
        Due.rule(x, "see 1;trust 1;cost " + MIN + ";");
        due.is("has(0, 0)", x.has(0, 0), 0);
        x.dead(136, 99);
        due.is("has(0, 0)", x.has(0, 0), 20);
        Due.rule(x, "see 1;trust 1;cost 1000;");
        due.is("has(0, 0)", x.has(0, 0), 20 - 999);
    }

    private static void namesInCost() {
        // kind, square, rest; number, hung, kind
        int[][] all = {{0, 136, 1, 0, 0, 0}, {5, 0, 99, 9, 8, 5}, {1, 255, 55, 5, 7, 1}, {2, 8, 11, 1, 8, 2},
            {3, 128, 21, 2, 8, 3}, {4, 143, 31, 3, 7, 4}, {0, 137, 91, 9, 1, 0}, {0, 120, 91, 9, 1, 0},
            {0, 248, 91, 9, 7, 0}};
        for (int[] w : all) {
            SkyWatchers x = Due.with(w[0], w[1], w[2]);
            x.dead(w[1], 9);
            String[] names = {"number", "hung", "kind", "1+far", "1+minute"};
            for (int i = 0; i < 5; i++) {
                Due.rule(x, "see 1;trust 1;cost " + names[i] + ";");
                due.is(names[i] + " over " + w[1], x.told(0, 8), i < 3 ? w[3 + i] : 1);
            }
        }
        SkyWatchers x = Due.with(0, 136, 1, 0, 136, 1);
        x.dead(100, 9);
        x.edge(136);
        x.wasted(0);
        Due.rule(x, "see 1;trust 1;cost far+minute+dropped+5;");
        due.is("told(1, 8)", x.told(1, 8), 5);
        x.wasted(0);
        due.is("told(1, 8)", x.told(1, 8), 5);
    }

    private static void namesInSeeAndTrust() {
        // the farthest that one looks is 14, the farthest that there is 15
        SkyWatchers x = Due.with(3, 0, 91, 5, 255, 99, 0, 255, 1);
        due.is("rule", Due.rule(x, "see far=14;trust far=15;cost 1;"), 1);
        due.is("edge(14)", x.edge(14), 1);
        due.is("edge(13)", x.edge(13), 0);
        due.is("find(14, 1, 0): 15 far", x.find(14, 1, 0), 3);
        due.is("find(14, 2, 0): it sees 1, 15 far", x.find(14, 2, 0), 4);
        due.is("find(30, 1, 0): 14 far", x.find(30, 1, 0), SkyWatchers.NONE);
        due.is("rule", Due.rule(x, "see far=0;trust 0;cost 1;"), 2);
        due.is("edge(0)", x.edge(0), 1);
        due.is("edge(1)", x.edge(1), 0);
        // dropped is 9 at most, minute 0 at first and 30 at last
        SkyWatchers y = new SkyWatchers();
        for (int i = 0; i < 10; i++) {
            y.watcher(i < 9 ? 0 : 2, i < 9 ? 3 : 4, 1);
        }
        due.is("rule", Due.rule(y, "see minute=0;trust dropped=9;cost 1;"), 1);
        due.is("find(0, 9, 0)", y.find(0, 9, 0), 1);
        due.is("rule", Due.rule(y, "see minute=0;trust 9<dropped;cost 1;"), 2);
        due.is("find(0, 9, 0)", y.find(0, 9, 0), SkyWatchers.NONE);
        due.is("rule", Due.rule(y, "see minute=29;trust minute=30 and dropped=9;cost 1;"), 3);
        due.is("find(0, 9, 0)", y.find(0, 9, 0), 30);
        due.is("rule", Due.rule(y, "see minute=30;trust 0<dropped;cost 1;"), 4);
        due.is("find(0, 8, 0)", y.find(0, 8, 0), 30);
        due.is("find(0, 9, 0): behind the last MINUTE", y.find(0, 9, 0), SkyWatchers.NONE);
        due.is("rule", Due.rule(y, "see minute<0 or 30<minute;trust 1;cost 1;"), 5);
        due.is("edge(0)", y.edge(0), 0);
    }
}
