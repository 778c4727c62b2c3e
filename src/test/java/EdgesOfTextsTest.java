/** Each sentence of 'Terms' that names an edge of a text: TOKENS, BEACH, LOG, SENTENCE, FAULTS. */
public final class EdgesOfTextsTest {
    private static final String MEN = "walker a 0 0;walker b 9 1;";
    private static final String HOUNDS = MEN + "dog d a 1 0 other;dog e b 1 0 near;";

    public static void main(String[] args) {
        blanks();
        letters();
        words();
        numbers();
        signs();
        goingOn();
        beachBytes();
        line();
        lineOnce();
        body();
        keeps();
        walkerNumbers();
        walkerWay();
        dogNumbers();
        dogLaw();
        dogWalker();
        tires();
        tiresOnce();
        names();
        sixWalkers();
        twoDogs();
        logBytes();
        logLines();
        logSeconds();
        logDeeds();
        sentenceBytes();
        twentyOnes();
        eightWithin();
        sentenceNumbers();
        firstAlong();
        leastOfOneToken();
        theEnd();
        theMostBytes();
        Check.finish();
    }

    private static void good(String text, int lines) {
        BetweenThem x = new BetweenThem();
        Check.due("'" + text + "'", Check.beach(x, text), lines);
        Check.due("fault of '" + text + "'", x.fault(), 0);
    }

    private static void bad(String text, int place, int kind) {
        BetweenThem x = new BetweenThem();
        Check.due("'" + text + "'", Check.beach(x, text), -1 - place);
        Check.due("fault of '" + text + "'", x.fault(), kind);
    }

    private static void goodLog(String text) {
        BetweenThem x = Check.on(HOUNDS);
        Check.due("log '" + text + "'", Check.log(x, 0, text) < -1, false);
        Check.due("fault of '" + text + "'", x.fault(), 0);
    }

    private static void badLog(String text, int place, int kind) {
        BetweenThem x = Check.on(HOUNDS);
        Check.due("log '" + text + "'", Check.log(x, 0, text), -2 - place);
        Check.due("fault of '" + text + "'", x.fault(), kind);
    }

    private static void goodSentence(String text, int ones) {
        BetweenThem x = Check.on(HOUNDS);
        Check.due("sentence '" + text + "'", Check.sentence(x, text), ones);
        Check.due("fault of '" + text + "'", x.fault(), 0);
    }

    private static void badSentence(String text, int place, int kind) {
        BetweenThem x = Check.on(HOUNDS);
        Check.due("sentence '" + text + "'", Check.sentence(x, text), -1 - place);
        Check.due("fault of '" + text + "'", x.fault(), kind);
    }

    // ---- TOKENS

    private static void blanks() {
        Check.about("with blanks (32, 10) between them or not");
        good("body 5;keeps 6;", 2);
        good("\n \nbody\n5 ;\n keeps\n \n6;", 2);
        good("body 5 ; keeps 6 ;\n", 2);
        for (int b = 0; b < 256; b++) {
            if (b != 32 && b != 10) {
                bad("body" + (char) b + " 5;", isRun(b) ? 0 : 4, 1);
            }
        }
        goodLog("a stops;b\nstops\n;second 5;");
        goodSentence("not(stands)or(pace<5)and place=5", 6);
        goodSentence(" not\n( stands )\nor ( pace < 5 ) and place\n=\n5\n", 6);
    }

    private static boolean isRun(int b) {
        return b >= 'a' && b <= 'z' || b >= '0' && b <= '9';
    }

    private static void letters() {
        Check.about("WORDS: small letters");
        good("walker az 0 0;walker z 0 0;walker a 0 0;", 3);
        for (char c : "`{AZ@[_-\u00e4\u00df\u0000\u007f\u0080\u00ff".toCharArray()) {
            bad("walker " + c + " 0 0;", 7, 1);
            bad("walker w" + c + " 0 0;", 8, 1);
        }
    }

    private static void words() {
        Check.about("WORDS: 1 to 7");
        good("walker a 0 0;", 1);
        good("walker abcdefg 0 0;", 1);
        bad("walker abcdefgh 0 0;", 7, 1);
        bad("walker " + "a".repeat(700) + " 0 0;", 7, 1);
        good("walker zzzzzzz 0 0;walker zzzzzzy 0 0;walker zzzzzz 0 0;walker yzzzzzz 0 0;", 4);
        good("walker a 0 0;walker aa 0 0;walker aaa 0 0;walker aaaa 0 0;walker aaaaa 0 0;walker aaaaaaa 0 0;", 6);
    }

    private static void numbers() {
        Check.about("NUMBERS: 1 to 3 digits");
        good("line 5;", 1);
        good("line 05;", 1);
        good("line 005;", 1);
        bad("line 0005;", 5, 1);
        bad("line 1000;", 5, 1);
        bad("line 4294967301;", 5, 1);
        bad("line 18446744073709551621;", 5, 1);
        bad("body /5;", 5, 1);
        bad("body :5;", 5, 1);
        good("body 0;keeps 9;", 2);
        bad("body -1;", 5, 1);
        bad("body +1;", 5, 1);
        BetweenThem x = Check.on("line 090;body 007;");
        Check.due("090", x.count(2), 90);
        Check.due("007", x.count(3), 7);
    }

    private static void signs() {
        Check.about("; < = > ( )");
        for (int b = 0; b < 256; b++) {
            boolean compares = b == '<' || b == '=' || b == '>';
            if (!compares && b != 32 && b != 10 && !isRun(b)) {
                badSentence("pace " + (char) b + " 5", 5, 1);
            }
            if (b != ';' && b != 32 && b != 10 && !isRun(b)) {
                bad("body 5" + (char) b, 6, 1);
                badLog("a stops" + (char) b, 7, 1);
            }
        }
        badSentence("pace << 5", 6, 1);
        badSentence("pace <= 5", 6, 1);
    }

    private static void goingOn() {
        Check.about("A WORD, NUMBER goes on as long as small letters and digits do; what is not as told is no TOKEN");
        bad("body5;", 0, 1);
        bad("body 5a;", 5, 1);
        bad("body 5keeps 6;", 5, 1);
        bad("walker a1 0 0;", 7, 1);
        bad("walker 1a 0 0;", 7, 1);
        bad("walker a 00 0back;", 12, 1);
        badLog("second5;", 0, 1);
        badLog("as tops;", 0, 3);
        badLog("a2 stops;", 0, 1);
        badSentence("stands1", 0, 1);
        badSentence("pace<5and stands", 5, 1);
        badSentence("notstands", 0, 1);
    }

    // ---- BEACH

    private static void beachBytes() {
        Check.about("A BEACH is a text of at most 900 bytes");
        good("", 0);
        good("body 1;" + Check.blanks(892), 1);
        good("body 1;" + Check.blanks(893), 1);
        good(Check.blanks(893) + "body 1;", 1);
        good(Check.blanks(900), 0);
        bad("body 1;" + Check.blanks(894), 900, 1);
        bad(Check.blanks(894) + "body 1;", 900, 1);
        bad(Check.blanks(901), 900, 1);
        bad(Check.blanks(940), 900, 1);
    }

    private static void line() {
        Check.about("'line' N (1 to 900: places 0 to N; 400 without)");
        bad("line 0;", 5, 2);
        good("line 1;walker a 0 0;walker b 1 0;", 3);
        bad("line 1;walker a 2 0;", 16, 2);
        good("line 900;walker a 900 0;", 2);
        bad("line 900;walker a 901 0;", 18, 2);
        bad("line 901;", 5, 2);
        bad("line 999;", 5, 2);
        good("walker a 400 0;", 1);
        bad("walker a 401 0;", 9, 2);
        good("line 899;walker a 899 0;", 2);
        bad("line 899;walker a 900 0;", 18, 2);
        Check.due("without", Check.on("body 1;").count(2), 400);
        Check.due("the least", Check.on("line 1;").count(2), 1);
        Check.due("the greatest", Check.on("line 900;").count(2), 900);
    }

    private static void lineOnce() {
        Check.about("'line': once, ahead of all walkers");
        bad("line 5;line 5;", 7, 3);
        bad("line 5;body 1;line 6;", 14, 3);
        bad(MEN + "line 5;", 26, 3);
        bad(MEN + " line", 27, 3);
        bad("line 9;" + MEN + "line 9;", 33, 3);
        bad(HOUNDS + "tires d 1; line 500;", HOUNDS.length() + 11, 3);
        good("body 1;keeps 1;line 5;walker a 5 0;", 4);
    }

    private static void body() {
        Check.about("'body' N (0 to 9; once; 1 without)");
        good("body 0;", 1);
        good("body 9;", 1);
        bad("body 10;", 5, 2);
        bad("body 999;", 5, 2);
        bad("body 0;body 0;", 7, 3);
        bad("body 1;" + MEN + "body 1;", 33, 3);
        good(MEN + "body 1;", 3);
        Check.due("the least", Check.on("body 0;").count(3), 0);
        Check.due("the greatest", Check.on("body 9;").count(3), 9);
        Check.due("without", Check.on("line 5;").count(3), 1);
    }

    private static void keeps() {
        Check.about("'keeps' N (1 to 99 SECONDS; once; none without)");
        bad("keeps 0;", 6, 2);
        good("keeps 1;", 1);
        good("keeps 99;", 1);
        bad("keeps 100;", 6, 2);
        bad("keeps 5;keeps 5;", 8, 3);
        bad("keeps 5;" + MEN + "keeps 6;", 34, 3);
        good(HOUNDS + "keeps 6;", 5);
        Check.due("the least", Check.on("keeps 1;").count(4), 1);
        Check.due("the greatest", Check.on("keeps 99;").count(4), 99);
        Check.due("without", Check.on("line 5;").count(4), -1);
    }

    private static void walkerNumbers() {
        Check.about("'walker' NAME PLACE PACE (a place; 0 to 9)");
        good("walker a 0 0;", 1);
        good("walker a 400 9;", 1);
        bad("walker a 0 10;", 11, 2);
        bad("walker a 0 999;", 11, 2);
        bad("walker a 999 0;", 9, 2);
        bad("walker a 401 10;", 9, 2);
        BetweenThem x = Check.on("walker a 0 0;walker b 400 9;");
        Check.due("place 0", x.walker(0, 0), 0);
        Check.due("pace 0", x.walker(0, 1), 0);
        Check.due("place 400", x.walker(1, 0), 400);
        Check.due("pace 9", x.walker(1, 1), 9);
        Check.due("numbered from 0", x.count(0), 2);
    }

    private static void walkerWay() {
        Check.about("back: toward 0, else toward N");
        BetweenThem x = Check.on("walker a 50 3 back;walker b 50 3;");
        Check.due("back", x.walker(0, 2), 1);
        Check.due("forth", x.walker(1, 2), 0);
        x.seconds(1);
        Check.due("toward 0", x.walker(0, 0), 47);
        Check.due("toward N", x.walker(1, 0), 53);
    }

    private static void dogNumbers() {
        Check.about("'dog' NAME WALKER PACE TURN LAW (1 to 30; 0 to 9 SECONDS)");
        bad(MEN + "dog d a 0 0 other;", 34, 2);
        good(MEN + "dog d a 1 0 other;", 3);
        good(MEN + "dog d a 30 9 other;", 3);
        bad(MEN + "dog d a 31 0 other;", 34, 2);
        bad(MEN + "dog d a 1 10 other;", 36, 2);
        bad(MEN + "dog d a 999 999 other;", 34, 2);
        Check.due("pace 1", Check.on(MEN + "dog d a 1 0 other;").dog(0, 1), 1);
        Check.due("pace 30", Check.on(MEN + "dog d a 30 0 other;").dog(0, 1), 30);
        BetweenThem x = Check.on(MEN + "dog d a 30 9 other;dog e a 30 0 other;");
        x.seconds(1);
        Check.due("turns 9 seconds", x.dog(0, 5), 9);
        Check.due("turns 0 seconds", x.dog(1, 5), 0);
    }

    private static void dogLaw() {
        Check.about("LAW: 'other', 'near', 'last', 'call'");
        for (String law : new String[] {"other", "near", "last", "call"}) {
            good(MEN + "dog d a 1 0 " + law + ";", 3);
        }
        for (String law : new String[] {"others", "nea", "back", "first", "calls", "a", "d", "5", ";", ""}) {
            bad(MEN + "dog d a 1 0 " + law + ";", 38, 1);
        }
    }

    private static void dogWalker() {
        Check.about("'dog' NAME WALKER (where it is at first)");
        BetweenThem x = Check.on(MEN + "dog d b 1 0 other;dog e a 1 0 other;");
        Check.due("by b", x.dog(0, 0), 9);
        Check.due("by b", x.dog(0, 6), 1);
        Check.due("by a", x.dog(1, 0), 0);
        Check.due("by a", x.dog(1, 6), 0);
        bad("dog d a 1 0 other;" + MEN, 6, 3);
        bad("walker a 0 0;dog d b 1 0 other;walker b 0 0;", 19, 3);
    }

    private static void tires() {
        Check.about("'tires' DOG N (1 to 20)");
        bad(HOUNDS + "tires d 0;", HOUNDS.length() + 8, 2);
        good(HOUNDS + "tires d 1;", 5);
        good(HOUNDS + "tires d 20;", 5);
        bad(HOUNDS + "tires d 21;", HOUNDS.length() + 8, 2);
        bad(HOUNDS + "tires a 1;", HOUNDS.length() + 6, 3);
        bad(HOUNDS + "tires z 1;", HOUNDS.length() + 6, 3);
        bad(HOUNDS + "tires 1 1;", HOUNDS.length() + 6, 1);
        bad(MEN + "tires d 1;dog d a 1 0 other;", 32, 3);
    }

    private static void tiresOnce() {
        Check.about("'tires': each DOG once");
        good(HOUNDS + "tires d 1;tires e 1;", 6);
        good(HOUNDS + "tires e 1;tires d 1;", 6);
        bad(HOUNDS + "tires d 1;tires d 1;", HOUNDS.length() + 16, 3);
        bad(HOUNDS + "tires d 20;tires e 1;tires d 2;", HOUNDS.length() + 27, 3);
        bad(HOUNDS + "tires e 20;tires d 1;tires e 2;", HOUNDS.length() + 27, 3);
    }

    private static void names() {
        Check.about("NAME: a WORD, none of those told here, in a LOG or a SENTENCE; told once");
        String[] words = ("line body keeps walker back dog other near last call tires stops walks turns calls throws"
                + " second or and not stands hangs sought by place pace visits number").split(" ");
        Check.due("words", words.length, 28);
        for (String word : words) {
            bad("walker " + word + " 0 0;", 7, 1);
            bad(MEN + "dog " + word + " a 1 0 other;", 30, 1);
            badLog(word + " stops;", word.equals("second") ? 7 : 0, 1);
            badSentence("by " + word, 3, 1);
            if (word.length() < 7) {
                good("walker " + word + "x 0 0;", 1);
            }
            good("walker " + word.substring(1) + " 0 0;", 1);
        }
        bad(MEN + "walker b 0 0;", 33, 3);
        bad(MEN + "dog a b 1 0 other;", 30, 3);
        bad(HOUNDS + "walker e 0 0;", HOUNDS.length() + 7, 3);
        bad(MEN + "dog d a 1 0 other;dog d b 1 0 other;", 48, 3);
    }

    private static void sixWalkers() {
        Check.about("6 WALKERS at most, numbered from 0");
        StringBuilder s = new StringBuilder();
        for (int w = 0; w < 6; w++) {
            s.append("walker ").append((char) ('p' + w)).append(' ').append(10 + w).append(" 0;");
            BetweenThem x = Check.on(s.toString());
            Check.due("walkers", x.count(0), w + 1);
            Check.due("the last", x.walker(w, 0), 10 + w);
            Check.dueThrows("none behind", () -> x.walker(x.count(0), 0));
        }
        bad(s + "walker z 0 0;", s.length(), 4);
        bad(s + "\nwalker z 0 0;", s.length() + 1, 4);
        bad(s + "walker p 0 0;", s.length(), 4);
        bad(s + "walker", s.length(), 4);
        good(s + "body 5;dog d u 1 0 other;", 8);
    }

    private static void twoDogs() {
        Check.about("2 DOGS at most, numbered from 0");
        BetweenThem x = Check.on(HOUNDS);
        Check.due("dogs", x.count(1), 2);
        Check.due("d", x.dog(0, 6), 0);
        Check.due("e", x.dog(1, 6), 1);
        Check.dueThrows("no third", () -> x.dog(2, 0));
        bad(HOUNDS + "dog f a 1 0 other;", HOUNDS.length(), 4);
        bad(HOUNDS + " dog d a 1 0 other;", HOUNDS.length() + 1, 4);
        bad(HOUNDS + "dog;", HOUNDS.length(), 4);
        good(HOUNDS + "walker f 0 0;", 5);
    }

    // ---- LOG

    private static void logBytes() {
        Check.about("A LOG is a text of at most 400 bytes");
        goodLog("");
        goodLog(Check.blanks(400));
        goodLog("a stops;" + Check.blanks(392));
        goodLog(Check.blanks(392) + "a stops;");
        badLog(Check.blanks(401), 400, 1);
        badLog("a stops;" + Check.blanks(393), 400, 1);
        badLog(Check.blanks(393) + "a stops;", 400, 1);
        badLog(Check.blanks(940), 400, 1);
    }

    private static void logLines() {
        Check.about("A LOG: { LINE ; }, 40 at most");
        String forty = "a turns;".repeat(40);
        goodLog("a turns;".repeat(39));
        goodLog(forty);
        badLog(forty + "b turns;", 320, 4);
        badLog(forty + " \nsecond 1;", 322, 4);
        badLog(forty + "second", 320, 4);
        badLog(forty + "second 61;", 320, 4);
        badLog("second 1;".repeat(40) + "a stops;", 360, 4);
        badLog(";", 0, 1);
        badLog("a turns", 7, 1);
        badLog("a turns;;", 8, 1);
    }

    private static void logSeconds() {
        Check.about("'second' N (1 to 60)");
        badLog("second 0;", 7, 2);
        goodLog("second 1;");
        goodLog("second 60;");
        badLog("second 61;", 7, 2);
        badLog("second 999;", 7, 2);
        badLog("second 1000;", 7, 1);
        badLog("second a;", 7, 1);
        badLog("second;", 6, 1);
        BetweenThem x = Check.on(HOUNDS);
        Check.log(x, 1, "second 60;");
        Check.due("60 went", x.now(0), 60);
        Check.log(x, 1, "second 1;");
        Check.due("one went", x.now(0), 61);
    }

    private static void logDeeds() {
        Check.about("WALKER ( 'stops' | 'walks' | 'turns' | 'calls' | 'throws' )");
        for (String deed : new String[] {"stops", "walks", "turns", "calls", "throws"}) {
            goodLog("a " + deed + ";");
        }
        for (String deed : new String[] {"stop", "back", "call", "second", "5", ";", "b", "stands", ""}) {
            badLog("a " + deed + ";", 2, 1);
        }
        badLog("z stops;", 0, 3);
        badLog("d stops;", 0, 3);
        badLog("5 stops;", 0, 1);
        badLog("a stops 5;", 8, 1);
    }

    // ---- SENTENCE

    private static void sentenceBytes() {
        Check.about("A SENTENCE is a text of at most 200 bytes");
        badSentence("", 0, 1);
        goodSentence("stands" + Check.blanks(194), 1);
        goodSentence(Check.blanks(194) + "stands", 1);
        badSentence("stands" + Check.blanks(195), 200, 1);
        badSentence(Check.blanks(195) + "stands", 200, 1);
        badSentence(Check.blanks(200), 200, 1);
        badSentence(Check.blanks(201), 200, 1);
        badSentence(Check.blanks(940), 200, 1);
    }

    private static void twentyOnes() {
        Check.about("20 ONES (each not, bracket and other one)");
        goodSentence("by a" + " or by a".repeat(18), 19);
        goodSentence("by a" + " or by a".repeat(19), 20);
        badSentence("by a" + " or by a".repeat(20), 160, 4);
        goodSentence("by a" + " and by a".repeat(19), 20);
        badSentence("by a" + " and by a".repeat(20), 4 + 19 * 9 + 5, 4);
        goodSentence("not(by a)or ".repeat(6) + "not by a", 20);
        badSentence("not(by a)or ".repeat(6) + "not not by a", 80, 4);
        badSentence("not(by a)or ".repeat(6) + "not(by a)", 76, 4);
        badSentence("not(by a)or ".repeat(6) + "by a or not by a", 84, 4);
        goodSentence("(by a)or ".repeat(9) + "(by a)", 20);
        badSentence("(by a)or ".repeat(10) + "by a", 90, 4);
    }

    private static void eightWithin() {
        Check.about("8 within one another; a ninth within (at its first TOKEN)");
        goodSentence("not ".repeat(7) + "by a", 8);
        badSentence("not ".repeat(8) + "by a", 32, 4);
        badSentence("not ".repeat(9) + "by a", 32, 4);
        goodSentence("(".repeat(7) + "by a" + ")".repeat(7), 8);
        badSentence("(".repeat(8) + "by a" + ")".repeat(8), 8, 4);
        badSentence("(".repeat(9) + "by a" + ")".repeat(9), 8, 4);
        goodSentence("not(not(not(not by a)))", 8);
        badSentence("not(not(not(not(by a))))", 16, 4);
        goodSentence("by a and not(not(not(not by a or by b)))", 10);
        goodSentence("by a and not(not(not(not by a or not by b)))", 11);
        badSentence("by a and not(not(not(not by a or not not by b)))", 41, 4);
        goodSentence("(((((((by a)))))))or(((((((by b)))))))", 16);
    }

    private static void sentenceNumbers() {
        Check.about("( 'place' | 'pace' | 'visits' | 'number' ) SIGN NUMBER");
        for (String what : new String[] {"place", "pace", "visits", "number"}) {
            int at = what.length();
            goodSentence(what + "<0", 1);
            goodSentence(what + "=999", 1);
            goodSentence(what + ">000", 1);
            badSentence(what + "=1000", at + 1, 1);
            badSentence(what + "=", at + 1, 1);
            badSentence(what + "=a", at + 1, 1);
            badSentence(what + " 5", at + 1, 1);
            badSentence(what, at, 1);
            badSentence(what + "=5 5", at + 3, 1);
        }
    }

    // ---- FAULTS

    private static void firstAlong() {
        Check.about("FAULTS, the first along the text");
        bad("line 0;body 10;$", 5, 2);
        bad("body 1;body 1;line 0;", 7, 3);
        bad("body 1;foo;line 0;", 7, 1);
        bad("line 5;walker a 6 10;", 16, 2);
        badLog("a stops;second 0;z stops;$", 15, 2);
        badLog("z stops;second 0;", 0, 3);
        badLog("a stop;z stops;", 2, 1);
        badSentence("by z and $", 3, 3);
        badSentence("pace=5 by z", 7, 1);
        BetweenThem x = new BetweenThem();
        Check.due("the first of two", Check.beach(x, "keeps 0;keeps 0;"), -7);
    }

    private static void leastOfOneToken() {
        Check.about("FAULTS, of one TOKEN the least");
        String forty = "a turns;".repeat(40);
        badLog(forty + "z turns;", 320, 3);
        badLog(forty + "d turns;", 320, 3);
        badLog(forty + "foo1;", 320, 1);
        badLog(forty + "turns;", 320, 1);
        badLog(forty + "5;", 320, 1);
        badSentence("by a" + " or by a".repeat(19) + " or z", 160, 1);
        badSentence("by a" + " or by a".repeat(19) + " or", 159, 1);
        badSentence("not ".repeat(8) + "a", 32, 1);
        badSentence("(".repeat(8), 8, 1);
    }

    private static void theEnd() {
        Check.about("1 (the end: how many bytes there are)");
        String[] parts = {"walker", " abc", " 17", " 3", " back"};
        StringBuilder s = new StringBuilder();
        for (String part : parts) {
            s.append(part);
            bad(s.toString(), s.length(), 1);
            bad(s + " \n ", s.length() + 3, 1);
        }
        good(s + ";", 1);
        String[] more = {"dog", " d", " a", " 5", " 5", " last"};
        s = new StringBuilder(MEN);
        for (String part : more) {
            s.append(part);
            bad(s.toString(), s.length(), 1);
        }
        bad(HOUNDS + "tires", HOUNDS.length() + 5, 1);
        bad(HOUNDS + "tires d", HOUNDS.length() + 7, 1);
        bad(HOUNDS + "tires d 5", HOUNDS.length() + 9, 1);
        bad("keeps", 5, 1);
        bad("body", 4, 1);
        bad("line ", 5, 1);
        badLog("a", 1, 1);
        badLog("a ", 2, 1);
        badLog("second", 6, 1);
        badLog("second 5\n", 9, 1);
        badSentence("not ", 4, 1);
        badSentence("(by a", 5, 1);
        badSentence("by a and ", 9, 1);
    }

    private static void theMostBytes() {
        Check.about("1 (the most bytes told, if there are more and no FAULT is ahead: TOKENS that begin ahead of it are"
                + " read whole)");
        bad(Check.blanks(893) + "body 5;;", 900, 1);
        bad(Check.blanks(894) + "body 5;;", 900, 1);
        bad(Check.blanks(892) + "body 5;;", 899, 1);
        bad(Check.blanks(895) + "body 5;", 900, 1);
        bad(Check.blanks(899) + "body 5;", 900, 1);
        bad(Check.blanks(899) + "bodyx 5;", 899, 1);
        bad(Check.blanks(899) + "abcdefgh", 899, 1);
        bad(Check.blanks(900) + "abcdefgh", 900, 1);
        bad(Check.blanks(894) + "body 10;", 899, 2);
        bad(Check.blanks(895) + "body 10;", 900, 1);
        bad("body 1;" + Check.blanks(888) + "body 1;" + Check.blanks(20), 895, 3);
        badLog(Check.blanks(394) + "second 60;", 400, 1);
        badLog(Check.blanks(392) + "second 61;", 399, 2);
        badLog(Check.blanks(393) + "second 61;", 400, 1);
        badLog(Check.blanks(399) + "z2345 stops;", 399, 1);
        badLog(Check.blanks(399) + "zz stops;", 399, 3);
        badSentence(Check.blanks(199) + "stands", 200, 1);
        badSentence(Check.blanks(199) + "stands2", 199, 1);
        badSentence(Check.blanks(196) + "by zoe", 199, 3);
        badSentence(Check.blanks(197) + "by zoe", 200, 1);
        badSentence("stands" + Check.blanks(193) + "standing", 199, 1);
        badSentence("stands" + Check.blanks(194) + "standing", 200, 1);
    }
}
