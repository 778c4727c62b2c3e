/** Each sentence of promises 1 to 5, 21, 22, 34, 35, 38 to 44 that names an edge, and the 512 calls of an object. */
public final class EdgesOfTellingTest {
    private static final String BEACH = "line 100;body 2;keeps 9;walker ann 0 1;walker bob 60 2 back;walker cid 97 0;"
            + "dog rex ann 10 1 other;dog pip cid 5 0 near;";

    public static void main(String[] args) {
        calls();
        newObject();
        feedBytes();
        feedHighestFirst();
        endTold();
        beachTold();
        beachStays();
        faultTold();
        faultLeft();
        saidTold();
        saidAtFirst();
        dearestTold();
        dearestLike();
        turnedTwenty();
        turnedNone();
        logLives();
        logWrong();
        logSecondsLeft();
        logFault();
        logThousand();
        loggedTold();
        loggedNone();
        sentenceTold();
        sentenceStays();
        standsTold();
        soughtTold();
        byTold();
        comparedTold();
        toldTold();
        toldNone();
        imageTold();
        imageOfAll();
        restoreTold();
        restoreStays();
        countTold();
        Check.finish();
    }

    private static BetweenThem atSecond(String beach, int second) {
        BetweenThem x = Check.on(beach);
        Check.pass(x, second);
        return x;
    }

    private static void calls() {
        Check.about("An object is used for at most 512 calls after it has been made");
        String beach = "line 100;walker a 3 1;walker b 5 2;walker c 90 9 back;dog d a 3 1 last;tires d 20;";
        BetweenThem x = Check.on(beach);
        // count(), feed(), end(), beach() so far, and two more behind the SECONDS
        int used = 3 + (beach.length() + 19) / 20;
        int seconds = 512 - used - 2;
        for (int i = 0; i < seconds; i++) {
            Check.due("a SECOND", x.seconds(1), 1);
        }
        BetweenThem y = atSecond(beach, seconds);
        Check.due("the 511th", x.dog(0, 2), y.dog(0, 2));
        Check.due("the 512th", x.undo(), 7);
    }

    private static void newObject() {
        Check.about("An empty BEACH; an empty tape");
        BetweenThem x = new BetweenThem();
        Agree.alike("as an empty text", x, Check.on(""));
        int[] counts = {0, 0, 400, 1, -1, 0};
        for (int i = 0; i < 6; i++) {
            Check.due("count " + i, x.count(i), counts[i]);
        }
        Check.due("no byte", x.end(1), false);
        Check.due("SECONDS go by there too", x.seconds(60), 60);
        Check.due("and are undone", x.undo(), 0);
        Check.due("two objects are two", new BetweenThem().now(0), 0);
    }

    private static void feedBytes() {
        Check.about("Twenty bytes come behind the tape: how many it has; NONE, and none come, if it would have more"
                + " than 940");
        BetweenThem x = new BetweenThem();
        for (int i = 1; i <= 47; i++) {
            Check.due("feed " + i, x.feed(0x20202020, 0x20202020, 0x20202020, 0x20202020, 0x20202020), 20 * i);
        }
        Check.due("960", x.feed(0, 0, 0, 0, 0), -1);
        Check.due("none came", x.count(5), 940);
        for (int n = 939; n > 920; n--) {
            x.end(n);
            Check.due("more than 940 by " + n, x.feed(0, 0, 0, 0, 0), -1);
            Check.due("none came", x.count(5), n);
        }
        x.end(920);
        Check.due("just 940", x.feed(0x20202020, 0x20202020, 0x20202020, 0x20202020, 0x20202024), 940);
        Check.due("all of it are blanks but the last", x.end(900), true);
        Check.due("a text of blanks", x.beach(), 0);
        Check.due("empty then", x.feed(0, 0, 0, 0, 0), 20);
    }

    private static void feedHighestFirst() {
        Check.about("of each number the highest first");
        BetweenThem x = Check.on("walker a 0 0;walker b 0 0;walker c 0 0;walker e 0 0;dog d a 1 0 last;");
        // 0 1 2 3 | 0 1 2 3 | ..: as the law says
        x.feed(0x01020300, 0x01020300, 0x01020300, 0x01020300, 0x01020300);
        Check.due("in this order", x.judge(0), -1);
        x.feed(0x01020300, 0x01020300, 0x01020300, 0x01020300, 0x01020301);
        Check.due("the last byte is the 20th", x.judge(0), 19);
        x.feed(0x00020300, 0x01020300, 0x01020300, 0x01020300, 0x01020300);
        Check.due("the first byte is the first", x.judge(0), 0);
        x.feed(0x01020300, 0xFF020300, 0x01020300, 0x01020300, 0x01020300);
        Check.due("255 is no WALKER", x.judge(0), -2);
        x.feed(0x80000000, 0, 0, 0, 0);
        x.end(2);
        Check.due("128 SECONDS, place 0", x.prints(), 15);
    }

    private static void endTold() {
        Check.about("The tape has its first n bytes alone: true; false, if it has not so many, or n is below 0");
        BetweenThem x = new BetweenThem();
        Check.due("0 of 0", x.end(0), true);
        Check.due("1 of 0", x.end(1), false);
        x.feed(0x626F6479, 0x20353B6B, 0x65657073, 0x20363B20, 0x20202020);
        Check.due("21 of 20", x.end(21), false);
        Check.due("20 of 20", x.end(20), true);
        Check.due("below 0", x.end(-1), false);
        Check.due("below 0", x.end(Integer.MIN_VALUE), false);
        Check.due("far above", x.end(Integer.MAX_VALUE), false);
        Check.due("none were lost", x.count(5), 20);
        Check.due("19 of 20", x.end(19), true);
        Check.due("20 of 19", x.end(20), false);
        Check.due("7", x.end(7), true);
        Check.due("its first bytes", x.beach(), 1);
        Check.due("'body 5;'", x.count(3), 5);
        Check.due("'keeps 6;' came not", x.count(4), -1);
        x.feed(0x626F6479, 0x20353B6B, 0x65657073, 0x20363B20, 0x20202020);
        x.end(6);
        x.feed(0x3B202020, 0x20202020, 0x20202020, 0x20202020, 0x20202020);
        Check.due("what comes stands behind them", x.beach(), 1);
    }

    private static void beachTold() {
        Check.about("The tape (empty then, here and below) is the BEACH now: how many LINES; -1 less the place of a"
                + " FAULT");
        BetweenThem x = new BetweenThem();
        Check.due("no LINE", x.beach(), 0);
        Check.due("8 LINES", Check.beach(x, BEACH), 8);
        Check.due("empty then", x.count(5), 0);
        Check.due("place 0", Check.beach(x, ";"), -1);
        Check.due("empty then", x.count(5), 0);
        Check.due("place 1", Check.beach(x, " ;"), -2);
        Check.due("no LINE again", x.beach(), 0);
        Check.due("no WALKER", x.count(0), 0);
        StringBuilder most = new StringBuilder("line 1;body 1;keeps 1;");
        for (int w = 0; w < 6; w++) {
            most.append("walker ").append((char) ('a' + w)).append(" 0 0;");
        }
        most.append("dog x a 1 0 last;dog y a 1 0 last;tires x 1;tires y 1;");
        Check.due("the most LINES", Check.beach(x, most.toString()), 13);
    }

    private static void beachStays() {
        Check.about("a FAULT: it stays");
        BetweenThem x = prepared();
        BetweenThem y = prepared();
        for (String text : new String[] {"line 0;", "body 1;body 1;", "walker", "walker a 1 1;$", ";"}) {
            Check.beach(x, text);
        }
        Check.beach(y, ";");
        Agree.alike("all stays", x, y);
        Agree.alikeToTheLast("all stays", x, y);
    }

    /** With something of all that could be lost. */
    private static BetweenThem prepared() {
        BetweenThem x = atSecond(BEACH, 7);
        x.image(1);
        x.turn(1);
        x.call(2);
        x.throwStick(0);
        x.stop(2);
        Check.log(x, 1, "second 3;bob throws;bob throws;");
        Check.sentence(x, "stands or by bob");
        return x;
    }

    private static void faultTold() {
        Check.about("The kind of the FAULT of the latest beach(), log() or sentence(); 0 without one and ahead of any");
        BetweenThem x = new BetweenThem();
        Check.due("ahead of any", x.fault(), 0);
        Check.beach(x, "body 10;");
        Check.due("beach 2", x.fault(), 2);
        Check.beach(x, BEACH);
        Check.due("without one", x.fault(), 0);
        Check.log(x, 0, "zoe stops;");
        Check.due("log 3", x.fault(), 3);
        Check.log(x, 0, "bob walks;");
        Check.due("WRONG is no FAULT", x.fault(), 0);
        Check.sentence(x, "not ".repeat(9) + "stands");
        Check.due("sentence 4", x.fault(), 4);
        Check.sentence(x, "stands");
        Check.due("without one", x.fault(), 0);
        Check.sentence(x, "");
        Check.due("sentence 1", x.fault(), 1);
        Check.beach(x, "");
        Check.due("an empty BEACH has none", x.fault(), 0);
    }

    private static void faultLeft() {
        Check.about("a log() of -1000 leaves it");
        BetweenThem x = Check.on(BEACH);
        Check.log(x, 0, "second 61;");
        Check.due("a FAULT", x.fault(), 2);
        Check.text(x, "second 60;");
        Check.due("-1000", x.log(2), -1000);
        Check.due("left", x.fault(), 2);
        Check.due("-1000", x.log(-1), -1000);
        Check.due("left", x.fault(), 2);
        x.prints();
        x.judge(0);
        x.laws();
        x.seconds(5);
        x.undo();
        x.image(0);
        x.restore(0);
        Check.due("left by all others", x.fault(), 2);
        Check.log(x, 0, "");
        Check.due("gone", x.fault(), 0);
        x.log(7);
        Check.due("left as 0", x.fault(), 0);
    }

    // ---- what was said, where it turned

    private static void saidTold() {
        Check.about("How often a DOG saw the second WALKER directly behind the first one; NONE: no such ones");
        BetweenThem x = Check.on("walker a 0 0;walker b 0 0;walker c 0 0;dog d a 9 0 other;dog e b 9 0 other;");
        x.seconds(6);
        for (int w = 0; w < 3; w++) {
            for (int v = 0; v < 3; v++) {
                Check.due("said " + w + " " + v, x.said(w, v), v == (w + 1) % 3 ? 4 : 0);
            }
        }
        for (int w : new int[] {-1, 3, 6, Integer.MIN_VALUE, Integer.MAX_VALUE}) {
            Check.due("said " + w + " 0", x.said(w, 0), -1);
            Check.due("said 0 " + w, x.said(0, w), -1);
        }
        Check.due("none at all", new BetweenThem().said(0, 0), -1);
    }

    private static void saidAtFirst() {
        Check.about("said: where it was at first counts");
        BetweenThem x = Check.on("walker a 0 0;walker b 0 0;walker c 0 0;dog d c 9 0 other;");
        Check.due("nothing yet", x.said(2, 0), 0);
        x.seconds(1);
        Check.due("from c to a", x.said(2, 0), 1);
        Check.due("not the other way", x.said(0, 2), 0);
    }

    private static void dearestTold() {
        Check.about("dearest: 10 times the lesser and the greater; NONE: nothing was said");
        String men = "walker a 0 0;walker b 10 0;walker c 20 0;walker e 30 0;walker f 40 0;walker g 50 0;";
        for (int w = 0; w < 6; w++) {
            for (int v = 0; v < 6; v++) {
                BetweenThem x = Check.on(men + "dog d " + "abcefg".charAt(w) + " 30 0 other;");
                Check.due("nothing was said", x.dearest(), -1);
                if (w != v) {
                    x.throwStick(v);
                    Check.pass(x, 2);
                    Check.due("from " + w, x.said(w, v), 1);
                    Check.due(w + " to " + v, x.dearest() == 10 * Math.min(w, v) + Math.max(w, v)
                            || x.dearest() < 10 * Math.min(w, v) + Math.max(w, v) && x.now(5) > 1, true);
                }
            }
        }
        BetweenThem far = Check.on(men + "dog d f 1 0 other;");
        far.throwStick(5);
        far.seconds(10);
        Check.due("f and g", far.dearest(), 45);
        Check.due("none at all", new BetweenThem().dearest(), -1);
    }

    private static void dearestLike() {
        Check.about("dearest: said() of both ways together; of like ones the first");
        BetweenThem x = Check.on("walker a 0 0;walker b 0 0;walker c 0 0;dog d b 9 0 call;");
        x.call(2);
        x.seconds(1);
        Check.due("b c", x.dearest(), 12);
        x.call(0);
        x.seconds(1);
        Check.due("b c, c a: alike", x.dearest(), 2);
        x.call(1);
        x.seconds(1);
        Check.due("b c, c a, a b: alike", x.dearest(), 1);
        x.call(2);
        x.seconds(1);
        Check.due("b c twice", x.dearest(), 12);
        x.call(0);
        x.seconds(1);
        Check.due("c a twice too", x.dearest(), 2);
        x.call(2);
        x.seconds(1);
        Check.due("both ways together", x.dearest(), 2);
        Check.due("a c once", x.said(0, 2), 1);
        x.call(1);
        x.seconds(1);
        Check.due("c b: three each", x.dearest(), 2);
        x.call(2);
        x.seconds(1);
        Check.due("b c: four of them", x.dearest(), 12);
    }

    private static void turnedTwenty() {
        Check.about("Of the latest 20 TURNS of a DOG (0 the latest): whom it saw; Where that was; NONE: none such");
        String beach = "line 900;walker a 0 1;walker b 1 1;walker c 2 1;dog d a 9 0 other;dog e c 9 0 near;";
        for (int turns : new int[] {0, 1, 2, 19, 20, 21, 39, 40, 41, 60}) {
            BetweenThem x = atSecond(beach, turns);
            Check.due("a TURN in each SECOND", x.dog(0, 3), turns);
            for (int k = 0; k <= 21; k++) {
                boolean told = k < 20 && k < turns;
                int whom = (turns - k) % 3;
                Check.due("turned " + k + " of " + turns, x.turned(0, k), told ? whom : -1);
                Check.due("turnedAt " + k + " of " + turns, x.turnedAt(0, k), told ? whom + turns - k : -1);
            }
        }
    }

    private static void turnedNone() {
        Check.about("turned, turnedAt: NONE: none such");
        BetweenThem x = atSecond("line 900;walker a 0 1;walker b 1 1;dog d a 9 0 other;", 30);
        for (int k : new int[] {-1, 20, 29, 30, Integer.MIN_VALUE, Integer.MAX_VALUE}) {
            Check.due("turned " + k, x.turned(0, k), -1);
            Check.due("turnedAt " + k, x.turnedAt(0, k), -1);
        }
        for (int d : new int[] {-1, 1, 2, Integer.MIN_VALUE, Integer.MAX_VALUE}) {
            Check.due("turned of " + d, x.turned(d, 0), -1);
            Check.due("turnedAt of " + d, x.turnedAt(d, 0), -1);
        }
    }

    // ---- the LOG

    private static void logLives() {
        Check.about("it is judged, all staying as it is (lives 0), or lived as far as it is not WRONG (1)");
        BetweenThem x = prepared();
        BetweenThem y = prepared();
        Check.due("judged", Check.log(x, 0, "second 9;ann turns;cid walks;cid calls;ann throws;cid walks;"), 5);
        Check.log(y, 0, "second 9;ann turns;cid walks;cid calls;ann throws;cid walks;");
        Agree.alike("all stays", x, prepared());
        Check.due("lived", Check.log(x, 1, "second 9;ann turns;cid walks;cid calls;ann throws;cid walks;ann stops;"), 5);
        y.seconds(9);
        y.turn(0);
        y.walk(2);
        y.call(2);
        y.throwStick(0);
        Agree.alike("as far as it is not WRONG", x, y);
        Check.due("the line behind was not lived", x.walker(0, 3), 1);
    }

    private static void logWrong() {
        Check.about("the LINE that is WRONG; NONE: none");
        BetweenThem x = Check.on("walker a 0 0;walker b 0 0;");
        Check.due("none", Check.log(x, 0, "a stops;b stops;a walks;"), -1);
        Check.due("none of none", Check.log(x, 0, ""), -1);
        Check.due("the first", Check.log(x, 0, "a walks;"), 0);
        Check.due("the second", Check.log(x, 0, "a stops;a stops;a stops;"), 1);
        String lines = "a turns;".repeat(39);
        Check.due("the fortieth", Check.log(x, 0, lines + "a walks;"), 39);
        Check.due("none of forty", Check.log(x, 1, lines + "a stops;"), -1);
        Check.due("lived", x.walker(0, 3), 0);
    }

    private static void logSecondsLeft() {
        Check.about("41: fewer SECONDS are left");
        BetweenThem x = atSecond("walker a 0 0;", 560);
        Check.due("40 of 40", Check.log(x, 0, "second 40;"), -1);
        Check.due("600", x.logged(2), 600);
        Check.due("41 of 40", Check.log(x, 0, "second 41;"), 0);
        Check.due("why", x.logged(0), 41);
        Check.due("none of them went", x.logged(2), 560);
        Check.due("40, then 1", Check.log(x, 1, "second 40;a stops;second 1;a walks;"), 2);
        Check.due("why", x.logged(0), 41);
        Check.due("600", x.now(0), 600);
        Check.due("acts can be at 600", Check.log(x, 1, "a walks;a turns;"), -1);
        Check.due("SECONDS cannot", Check.log(x, 1, "a stops;second 1;"), 1);
    }

    private static void logFault() {
        Check.about("-2 less the place of a FAULT");
        BetweenThem x = prepared();
        BetweenThem y = prepared();
        Check.due("place 0", Check.log(x, 1, ";"), -2);
        Check.due("place 9", Check.log(x, 1, "second 1;zoe stops;"), -11);
        Check.due("place 400", Check.log(x, 1, "second 1;" + Check.blanks(392)), -402);
        Check.due("of kind", x.fault(), 1);
        Check.log(y, 1, ";");
        Agree.alike("nothing was lived", x, y);
        Agree.alikeToTheLast("nothing was lived", x, y);
    }

    private static void logThousand() {
        Check.about("-1000: another lives (the tape stays)");
        BetweenThem x = prepared();
        BetweenThem y = prepared();
        Check.text(x, "second 9;$");
        Check.text(y, "second 9;$");
        for (int lives : new int[] {-1, 2, 10, Integer.MIN_VALUE, Integer.MAX_VALUE}) {
            Check.due("lives " + lives, x.log(lives), -1000);
        }
        Check.due("the tape stays", x.count(5), 10);
        Agree.alike("nothing else changed", x, y);
        x.end(9);
        Check.due("as it was", x.log(1), -1);
        y.end(9);
        y.log(1);
        Agree.alikeToTheLast("and on", x, y);
    }

    private static void loggedTold() {
        Check.about("0 why it was WRONG (0: it was not; as for stopping, 10 more as for walking, 20 for throwing), 1"
                + " LINES that are not, 2 the SECOND then, 3 all TURNS in it");
        String beach = "walker a 0 0;walker b 0 0;dog d a 9 0 other;dog e b 9 1 near;";
        String[] texts = {"", "a stops;second 3;", "second 4;a stops;second 1;a stops;", "second 1;b walks;second 1;",
            "b throws;b throws;", "second 60;second 1;"};
        int[][] due = {{0, 0, 5, 0}, {0, 2, 8, 4}, {1, 3, 10, 7}, {11, 1, 6, 1}, {21, 1, 5, 0}, {0, 2, 66, 91}};
        for (int i = 0; i < texts.length; i++) {
            for (int lives = 0; lives < 2; lives++) {
                BetweenThem x = atSecond(beach, 5);
                Check.log(x, lives, texts[i]);
                for (int what = 0; what < 4; what++) {
                    Check.due("'" + texts[i] + "' " + what, x.logged(what), due[i][what]);
                }
            }
        }
    }

    private static void loggedNone() {
        Check.about("logged: of the latest log() that had no FAULT (and was not -1000); NONE: another what, or ahead of"
                + " any");
        BetweenThem x = Check.on(BEACH);
        for (int what = -1; what < 5; what++) {
            Check.due("ahead of any " + what, x.logged(what), -1);
        }
        Check.log(x, 0, "foo;");
        x.log(9);
        for (int what = -1; what < 5; what++) {
            Check.due("still ahead of any " + what, x.logged(what), -1);
        }
        Check.log(x, 0, "second 7;bob walks;");
        int[] due = {11, 1, 7, 0};
        for (int round = 0; round < 3; round++) {
            for (int what = 0; what < 4; what++) {
                Check.due("logged " + what, x.logged(what), due[what] + (what == 3 ? x.turns(0, 7) : 0));
            }
            if (round == 0) {
                Check.log(x, 0, "foo;");
                Check.log(x, 1, "second 61;");
                x.log(9);
            } else {
                x.image(0);
                x.restore(0);
            }
        }
        for (int what : new int[] {-1, 4, Integer.MIN_VALUE, Integer.MAX_VALUE}) {
            Check.due("another what " + what, x.logged(what), -1);
        }
    }

    // ---- the SENTENCE

    private static void sentenceTold() {
        Check.about("The tape is the SENTENCE now: how many ONES (each not, bracket and other one); -1 less the place"
                + " of a FAULT");
        BetweenThem x = Check.on(BEACH);
        Check.due("one", Check.sentence(x, "stands"), 1);
        Check.due("a not", Check.sentence(x, "not stands"), 2);
        Check.due("a bracket", Check.sentence(x, "(stands)"), 2);
        Check.due("both", Check.sentence(x, "not(stands and hangs)"), 4);
        Check.due("empty then", x.count(5), 0);
        Check.due("an empty text", x.sentence(), -1);
        Check.due("place 3", Check.sentence(x, "by zoe"), -4);
        Check.due("empty then", x.count(5), 0);
    }

    private static void sentenceStays() {
        Check.about("sentence: a FAULT: it stays");
        BetweenThem x = Check.on(BEACH);
        Check.sentence(x, "foo");
        Check.due("there is none", x.told(-1), -1);
        Check.sentence(x, "number=1");
        for (String text : new String[] {"", "stands and", "stands or by zoe", "stands)", "not ".repeat(9)}) {
            Check.due("a FAULT", Check.sentence(x, text) < 0, true);
            Check.due("it stays", x.told(-1), 1);
            Check.due("it stays", x.told(0), 1);
        }
        BetweenThem y = prepared();
        Check.sentence(y, "by zoe");
        BetweenThem z = prepared();
        Check.sentence(z, "by zoe or by zoe");
        Agree.alike("all stays", y, z);
        Agree.alikeToTheLast("all stays", y, z);
    }

    private static int bits(BetweenThem x, String text) {
        Check.due("'" + text + "' has no fault", Check.sentence(x, text) > 0, true);
        int bits = 0;
        for (int k = 0; k < x.told(-1); k++) {
            bits |= 1 << x.told(k);
        }
        return bits;
    }

    private static void standsTold() {
        Check.about("'stands' (he did not move in the latest SECOND, or none has gone)");
        BetweenThem x = Check.on("line 50;keeps 3;walker a 0 9;walker b 0 0;walker c 0 9 back;walker e 49 9;"
                + "walker f 20 1;");
        Check.due("none has gone", bits(x, "stands"), 31);
        x.stop(4);
        x.seconds(1);
        Check.due("pace 0, at 0, stopped", bits(x, "stands"), 22);
        x.walk(4);
        Check.due("he walks, but did not move", bits(x, "stands"), 22);
        x.stop(0);
        Check.due("he stopped, but moved", bits(x, "stands"), 22);
        x.walk(0);
        x.seconds(1);
        Check.due("e is at N now, f goes", bits(x, "stands"), 14);
        x.seconds(1);
        Check.due("all hang back from now on", x.now(3), 31);
        Check.due("they moved", bits(x, "stands"), 14);
        x.seconds(1);
        Check.due("who hangs back stands", bits(x, "stands"), 31);
        x.undo();
        Check.due("undone", bits(x, "stands"), 14);
    }

    private static void soughtTold() {
        Check.about("'sought' (some DOG is on its way to him)");
        BetweenThem x = Check.on("walker a 0 0;walker b 20 0;walker c 40 0;dog d a 5 0 other;dog e b 5 0 other;");
        Check.due("none yet", bits(x, "sought"), 0);
        x.seconds(1);
        Check.due("b and c", bits(x, "sought"), 6);
        x.throwStick(0);
        Check.due("on its way it stays", bits(x, "sought"), 6);
        x.seconds(3);
        Check.due("both are there", bits(x, "sought"), 0);
        x.seconds(1);
        Check.due("both to a", bits(x, "sought"), 1);
    }

    private static void byTold() {
        Check.about("'by' WALKER (BODY from that one at most)");
        for (int body = 0; body <= 9; body++) {
            BetweenThem x = Check.on("body " + body + ";walker a 50 0;walker b " + (50 + body) + " 0;walker c "
                    + (51 + body) + " 0;walker e " + (50 - body) + " 0;walker f " + (49 - body) + " 0;");
            Check.due("BODY " + body, bits(x, "by a"), 11);
            Check.due("himself is by himself", bits(x, "by c") & 4, 4);
        }
    }

    private static void comparedTold() {
        Check.about("( 'place' | 'pace' | 'visits' | 'number' (its number) ) SIGN NUMBER. SIGN: < = >");
        BetweenThem x = atSecond("line 900;walker a 5 0;walker b 5 4;walker c 900 9;dog d a 30 0 near;", 3);
        // d: b in SECONDS 0 and 2, a in 1
        Check.due("places", x.walker(1, 0), 17);
        for (int n = 0; n < 20; n++) {
            int[][] values = {{5, 17, 900}, {0, 4, 9}, {1, 2, 0}, {0, 1, 2}};
            String[] words = {"place", "pace", "visits", "number"};
            for (int i = 0; i < 4; i++) {
                int less = 0;
                int same = 0;
                for (int w = 0; w < 3; w++) {
                    less |= values[i][w] < n ? 1 << w : 0;
                    same |= values[i][w] == n ? 1 << w : 0;
                }
                if (n < 3 || n == 5 || n == 17 || n == 18) {
                    Check.due(words[i] + "<" + n, bits(x, words[i] + "<" + n), less);
                    Check.due(words[i] + "=" + n, bits(x, words[i] + "=" + n), same);
                    Check.due(words[i] + ">" + n, bits(x, words[i] + ">" + n), 7 & ~less & ~same);
                }
            }
        }
        Check.due("place = 900", bits(x, "place=900"), 4);
        Check.due("place < 900", bits(x, "place<900"), 3);
        Check.due("place > 899", bits(x, "place>899"), 4);
        Check.due("place < 999", bits(x, "place<999"), 7);
        Check.due("pace = 9", bits(x, "pace=9"), 4);
        Check.due("pace > 9", bits(x, "pace>9"), 0);
    }

    private static void toldTold() {
        Check.about("WALKERS of whom it may be said: how many (k NONE), or the k-th");
        BetweenThem x = Check.on("walker a 0 0;walker b 1 0;walker c 2 0;walker e 3 0;walker f 4 0;walker g 5 0;");
        Check.sentence(x, "number=0 or number=3 or number=5");
        Check.due("how many", x.told(-1), 3);
        int[] due = {0, 3, 5, -1, -1, -1, -1};
        for (int k = 0; k < due.length; k++) {
            Check.due("told " + k, x.told(k), due[k]);
        }
        Check.sentence(x, "stands");
        Check.due("all", x.told(-1), 6);
        Check.due("the last", x.told(5), 5);
        Check.due("none such", x.told(6), -1);
        Check.sentence(x, "hangs");
        Check.due("nobody", x.told(-1), 0);
        Check.due("nobody", x.told(0), -1);
    }

    private static void toldNone() {
        Check.about("told: NONE: there is no SENTENCE, none such");
        BetweenThem x = Check.on(BEACH);
        for (int k = -2; k < 7; k++) {
            Check.due("no SENTENCE " + k, x.told(k), -1);
        }
        Check.sentence(x, "stands");
        for (int k : new int[] {-2, 3, 6, Integer.MIN_VALUE, Integer.MAX_VALUE}) {
            Check.due("none such " + k, x.told(k), -1);
        }
        BetweenThem empty = new BetweenThem();
        Check.sentence(empty, "stands");
        Check.due("said of nobody", empty.told(-1), 0);
        Check.due("said of nobody", empty.told(0), -1);
    }

    // ---- images, counts

    private static void imageTold() {
        Check.about("image, restore: place k (0, 1); false: no such one");
        BetweenThem x = prepared();
        BetweenThem y = prepared();
        for (int k : new int[] {-1, 2, Integer.MIN_VALUE, Integer.MAX_VALUE}) {
            Check.due("image " + k, x.image(k), false);
            Check.due("restore " + k, x.restore(k), false);
        }
        Agree.alike("nothing changed", x, y);
        Check.due("the first", x.image(0), true);
        Check.due("the last", x.image(1), true);
        y.image(0);
        y.image(1);
        Agree.alikeToTheLast("nothing to undo was lost", x, y);
    }

    private static void imageOfAll() {
        Check.about("BEACH, all that is so and the SENTENCE are kept in place k");
        BetweenThem x = prepared();
        x.image(0);
        Check.beach(x, "line 7;body 0;walker z 1 1 back;dog q z 1 0 last;tires q 1;");
        Check.due("no SENTENCE here", x.told(-1), -1);
        x.image(1);
        x.seconds(5);
        Check.sentence(x, "pace=1");
        Check.due("restore", x.restore(0), true);
        BetweenThem y = prepared();
        Agree.alike("all that was so", x, y);
        Check.due("the SENTENCE", x.told(-1), y.told(-1));
        x.drawn(60, 9);
        y.drawn(60, 9);
        Agree.alike("and it goes on so", x, y);
        Check.due("the SENTENCE", x.told(-1), y.told(-1));
        Check.due("the other one", x.restore(1), true);
        Check.due("its line", x.count(2), 7);
        Check.due("its SECOND", x.now(0), 0);
        Check.due("no SENTENCE", x.told(-1), -1);
        Check.due("the first again", x.restore(0), true);
        Agree.alike("again all that was so", x, prepared());
        x.seconds(3);
        x.image(0);
        Check.due("kept anew", x.restore(0), true);
        Check.due("13", x.now(0), 13);
    }

    private static void restoreTold() {
        Check.about("restore: false: no such one, or nothing is kept there");
        BetweenThem x = Check.on(BEACH);
        Check.due("nothing in 0", x.restore(0), false);
        Check.due("nothing in 1", x.restore(1), false);
        x.image(1);
        Check.due("nothing in 0", x.restore(0), false);
        x.seconds(5);
        Check.due("undo is there still", x.undo(), 0);
        x.seconds(5);
        Check.due("1", x.restore(1), true);
        Check.due("0", x.now(0), 0);
        Check.due("an empty object is kept too", new BetweenThem().image(0), true);
    }

    private static void restoreStays() {
        Check.about("the tape, and what other calls told last, stays; nothing can be undone");
        BetweenThem x = Check.on(BEACH);
        x.image(0);
        Check.log(x, 1, "second 5;bob walks;");
        Check.sentence(x, "by zoe");
        x.turn(0);
        Check.text(x, "second 6;");
        Check.due("restore", x.restore(0), true);
        Check.due("the tape", x.count(5), 9);
        Check.due("fault()", x.fault(), 3);
        int[] due = {11, 1, 5, 1};
        for (int what = 0; what < 4; what++) {
            Check.due("logged " + what, x.logged(what), due[what]);
        }
        Check.due("nothing can be undone", x.undo(), -1);
        Check.due("still", x.now(0), 0);
        Check.due("the tape is as it was", x.log(1), -1);
        Check.due("6", x.now(0), 6);
        Check.due("what is done then can be", x.undo(), 0);
    }

    private static void countTold() {
        Check.about("0 WALKERS, 1 DOGS, 2 'line', 3 'body', 4 'keeps' (NONE: none), 5 bytes of the tape. NONE for"
                + " another what");
        BetweenThem x = Check.on(BEACH);
        x.feed(0, 0, 0, 0, 0);
        int[] due = {3, 2, 100, 2, 9, 20};
        for (int what = 0; what < 6; what++) {
            Check.due("count " + what, x.count(what), due[what]);
        }
        for (int what : new int[] {-1, 6, Integer.MIN_VALUE, Integer.MAX_VALUE}) {
            Check.due("count " + what, x.count(what), -1);
        }
        Check.due("no keeps", Check.on("").count(4), -1);
    }
}
