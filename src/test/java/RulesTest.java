/** Promises 8 to 10 and what stands in texts: how they are read, their faults, their values. */
public final class RulesTest {
    private static final Due due = new Due("RulesTest");

    public static void main(String[] args) {
        feedsBytes();
        readsTexts();
        answersFaults();
        limitsWhatIsOpen();
        computesValues();
        boundsCosts();
        forcesTexts();
        due.end();
    }

    private static void feedsBytes() {
        SkyWatchers x = new SkyWatchers();
        due.is("feed(0, 1)", x.feed(0, 1), SkyWatchers.BAD);
        due.is("feed(9, 1)", x.feed(9, 1), SkyWatchers.BAD);
        due.is("feed(-1, 1)", x.feed(-1, 1), SkyWatchers.BAD);
        due.is("count(4)", x.count(4), 0);
        // of "sex" the two lowest bytes, then "e 1;"
        due.is("feed(2)", x.feed(2, 0x786573L), 2);
        due.is("feed(4)", x.feed(4, 0x3b312065L), 6);
        due.is("count(4)", x.count(4), 6);
        Due.feed(x, "trust 1;cost 1;");
        due.is("text()", x.text(), 1);
        due.is("count(4)", x.count(4), 0);
        for (int i = 1; i <= 19; i++) {
            due.is("feed(8) " + i, x.feed(8, -1L), 8 * i);
        }
        due.is("feed(7)", x.feed(7, 0), 159);
        due.is("feed(2)", x.feed(2, 0), SkyWatchers.FULL);
        due.is("feed(9)", x.feed(9, 0), SkyWatchers.BAD);
        due.is("feed(1)", x.feed(1, 0), 160);
        due.is("feed(1)", x.feed(1, 0), SkyWatchers.FULL);
        due.is("count(4)", x.count(4), 160);
        due.is("text()", x.text(), -100);
        due.is("count(4) behind a FAULT", x.count(4), 0);
    }

    private static void readsTexts() {
        SkyWatchers x = new SkyWatchers();
        due.is("text 1", Due.text(x, "see 1 ; trust 1 ; cost 1 ;"), 1);
        due.is("text 2", Due.text(x, "see1;trust1;cost1;"), 2);
        due.is("text 3", Due.text(x, "\n see\n(1) ;trust not not 1<2 and 1=1 or 3;cost- -1;  \n"), 3);
        due.is("a fault between", Due.text(x, "see"), -103);
        due.is("text 4", Due.text(x, "see far*minute+dropped-number;trust hung<kind;cost 9999;"), 4);
        due.is("count(3)", x.count(3), 5);
        due.is("text 5", Due.text(x, "see(((((1)))));trust 0000;cost 0;"), 5);
        Due.feed(x, "see 1");
        due.is("text() that has no room", x.text(), SkyWatchers.FULL);
        due.is("THE TAPE stays", x.count(4), 5);
        due.is("count(3)", x.count(3), 6);
    }

    private static void fault(String text, int place) {
        SkyWatchers x = new SkyWatchers();
        due.is("text() of " + text, Due.text(x, text), -100 - place);
        due.is("TEXTS behind " + text, x.count(3), 1);
        due.is("THE TAPE behind " + text, x.count(4), 0);
    }

    private static void answersFaults() {
        fault("", 0);
        fault("  \n ", 4);
        fault("trust 1;", 0);
        fault(" see 1 trust 1", 7);
        fault("see 1 ; trust 1 ; cost 1", 24);
        fault("see 1 ; trust 1 ; cost 1  ", 26);
        fault("see 1 ; trust 1 ; cost 1 ; ;", 27);
        fault("see 1 ; trust 1 ; cost 1 ; x", 27);
        fault("see 1 ; trust 1 ; cost 1 ;see 1;", 26);
        fault("see ;", 4);
        fault("see see;", 4);
        fault("see farr;", 4);
        fault("see fa;", 4);
        fault("see far2;", 7);
        fault("see 2far;", 5);
        fault("see 1 2;", 6);
        fault("see 12345;", 4);
        fault("see 00001;", 4);
        fault("see 1+12345;", 6);
        fault("see 1 . trust", 6);
        fault("see 1\t;", 5);
        fault("see A;", 4);
        fault("see " + (char) 233 + ";", 4);
        fault("see 1" + (char) (';' + 128), 5);
        fault("see 1<2<3;", 7);
        fault("see 1=2=3;", 7);
        fault("see 1<2=3;", 7);
        fault("see 1<not 2;", 6);
        fault("see 1+not 2;", 6);
        fault("see -not 2;", 5);
        fault("see not;", 7);
        fault("see not and 1;", 8);
        fault("see or 1;", 4);
        fault("see 1 or;", 8);
        fault("see 1 and or 1;", 10);
        fault("see 1+;", 6);
        fault("see +1;", 4);
        fault("see *1;", 4);
        fault("see 1*;", 6);
        fault("see 1**2;", 6);
        fault("see ();", 5);
        fault("see (1;", 6);
        fault("see (1));", 7);
        fault("see 1);", 5);
        fault("see (1", 6);
        fault("see 1;trust 1;cost 1 cost", 21);
        fault("see 1;cost 1;trust 1;", 6);
        fault("see 1;see 1;", 6);
        fault("seetrust", 0);
        fault("seez 1;", 0);
        fault("bee 1;", 0);
        fault("see -x 1;", 5);
        fault("see (x 1));", 5);
        fault("see 1;trust 1;cost 1;5", 21);
        // the first one counts, though bytes behind are worse
        fault("see 1 1 12345 xyz", 6);
    }

    private static void limitsWhatIsOpen() {
        fault("see ((((((1))))));", 9);
        fault("see not not not not not not 1;", 24);
        fault("see ------1;", 9);
        fault("see not(not(-1));", 17);
        fault("see not(not(-1))", 16);
        fault("see not(not(-(1)));", 13);
        fault("see not(not(--1));", 13);
        fault("see not(not((1)and not 1));", 27);
        fault("see not(not((1)and not not 1));", 23);
        fault("see (not(-((1)))+((1)));", 11);
        fault("see -----(1);", 9);
        SkyWatchers x = new SkyWatchers();
        // what ended is not open any more, and a - between two is not one ahead of a ONE
        due.is("five", Due.text(x, "see (((((1)))))*(((((1)))));trust not not not not not 1;cost -----1;"), 1);
        due.is("ended", Due.text(x, "see not not not not not 1 and not not not not not 1;trust 1;cost 1;"), 2);
        due.is("between", Due.text(x, "see 1-1-1-1-1-1-1-1;trust -1-1*-1--1--1<-1;cost 1;"), 3);
        due.is("mixed", Due.text(x, "see not -(not -1<1)*(((1))) or not(1);trust 1;cost 1;"), 4);
    }

    private static void cost(String e, long want) {
        SkyWatchers x = new SkyWatchers();
        x.watcher(4, 0, 37);
        int number = Due.rule(x, "see 1;trust 1;cost " + e + ";");
        due.is("text() of cost " + e, number, 1);
        due.is("cost " + e, x.told(0, 8), want);
    }

    private static void computesValues() {
        cost("0007", 7);
        cost("2+3*4", 14);
        cost("(2+3)*4", 20);
        cost("20-3-4", 13);
        cost("20-(3-4)", 21);
        cost("2*3*4-5*-2", 34);
        cost("--5", 5);
        cost("-5*-2", 10);
        cost("1<2", 1);
        cost("2<2", 0);
        cost("-1<0", 1);
        cost("2=2", 1);
        cost("2=3", 0);
        cost("(2=2)+(1<2)", 2);
        cost("1+1=2", 1);
        cost("3 and 4", 1);
        cost("3 and 0", 0);
        cost("0 or 7", 1);
        cost("0 or 0", 0);
        cost("1 or 1 and 0", 1);
        cost("(1 or 1) and 0", 0);
        cost("0 and 0 or 1", 1);
        cost("not 0", 1);
        cost("not 5", 0);
        cost("not not 5", 1);
        cost("not 1=2", 1);
        cost("not 0 and 0", 0);
        cost("not 1 or 1", 1);
        cost("(not 0)+5", 6);
        // 9999 * 9999 * 9999 is -1027349969 in 32 bits
        cost("9999*9999*9999+9999*9999*10+2755*9999+2714+7", 7);
        cost("256*256*256*256", 0);
        cost("256*256*128*256<0", 1);
        cost("0-256*256*128*256<0", 1);
        cost("1+256*256*128*256-1<0", 1);
        cost("256*256*128*256-1<0", 0);
        // the names of a WARY one, NUMBER 3, over square 0
        cost("far", 0);
        cost("minute", 0);
        cost("dropped", 0);
        cost("number", 3);
        cost("hung", 8);
        cost("kind", 4);
        // one operator of each rank open in each of five brackets
        String level = "1or 1and 1<1+1*";
        cost((level + "(").repeat(5) + level + "1" + ")".repeat(5), 1);
        String other = "0or 1and 0<3-1*";
        cost((other + "(").repeat(5) + other + "1" + ")".repeat(5), 1);
    }

    private static void boundsCosts() {
        cost("999", 999);
        cost("1000", 999);
        cost("9999*9999", 999);
        cost("-1", 0);
        cost("0-9999", 0);
        cost("998+1", 999);
    }

    private static void forcesTexts() {
        SkyWatchers x = new SkyWatchers();
        x.watcher(0, 136, 1);
        due.is("told(0, 8) of TEXT 0", x.told(0, 8), 1);
        due.is("force(1)", x.force(1), SkyWatchers.BAD);
        due.is("force(-1)", x.force(-1), SkyWatchers.BAD);
        due.is("force(0)", x.force(0), 0);
        Due.text(x, "see 0;trust 1;cost 5;");
        due.is("count(5)", x.count(5), 0);
        due.is("edge(136)", x.edge(136), 1);
        due.is("force(1)", x.force(1), 0);
        due.is("count(5)", x.count(5), 1);
        due.is("told(0, 8)", x.told(0, 8), 5);
        due.is("edge(136)", x.edge(136), 0);
        due.is("force(1)", x.force(1), 1);
        due.is("force(2)", x.force(2), SkyWatchers.BAD);
        due.is("force(6)", x.force(6), SkyWatchers.BAD);
        due.is("force(0)", x.force(0), 1);
        due.is("edge(136)", x.edge(136), 1);
    }
}
