import java.math.BigInteger;

/** Each sentence of part 3 that names an edge, and promises 16 to 19, 23 to 33, 36, 37: what would be. */
public final class EdgesOfForesightTest {
    public static void main(String[] args) {
        gap();
        meetBody();
        meetThreeHundred();
        meetSixHundred();
        meetNone();
        runSixty();
        turnsSixty();
        runTillTheEnd();
        twoPaces();
        twoGap();
        twoRunner();
        farTold();
        nearTold();
        nearGreatest();
        endsTold();
        fractions();
        throwingChangesNothing();
        roundTold();
        roundByOrder();
        roundByPlaces();
        strayTwoHundred();
        strayAtOnce();
        leastThirty();
        leastForty();
        leastLike();
        leastNone();
        printsPairs();
        printsCut();
        printsUnsigned();
        printsAll();
        printsLate();
        judgeBytes();
        judgeThreeHundred();
        judgeNone();
        lawsBytes();
        lawsBits();
        lawsLast();
        drawnTold();
        drawnWraps();
        drawnEach();
        oddsTold();
        oddsWrap();
        oddsThirtySeconds();
        Check.finish();
    }

    private static BetweenThem atSecond(String beach, int second) {
        BetweenThem x = Check.on(beach);
        Check.pass(x, second);
        return x;
    }

    private static final int[] NO_ONES = {-1, 2, 6, Integer.MIN_VALUE, Integer.MAX_VALUE};
    private static final String TWO = "line 900;body 0;walker a 0 1;walker b 600 0;dog d a 30 0 other;";

    private static void gap() {
        Check.about("How far two WALKERS are apart; NONE: no such ones");
        BetweenThem x = Check.on("line 900;walker a 0 0;walker b 900 0;");
        Check.due("the farthest", x.gap(0, 1), 900);
        Check.due("either way", x.gap(1, 0), 900);
        Check.due("alike", x.gap(1, 1), 0);
        for (int w : NO_ONES) {
            Check.due("gap " + w + " 0", x.gap(w, 0), -1);
            Check.due("gap 0 " + w, x.gap(0, w), -1);
            Check.due("gap of both " + w, x.gap(w, w), -1);
        }
    }

    private static void meetBody() {
        Check.about("meet: BODY apart at most");
        for (int body = 0; body <= 9; body++) {
            String beach = "body " + body + ";walker a 100 0;walker b " + (100 + body) + " 0;walker c "
                    + (101 + body) + " 0;walker e " + (99 - body) + " 1;";
            BetweenThem x = Check.on(beach);
            Check.due("just BODY " + body, x.meet(0, 1), 0);
            Check.due("one more than BODY " + body, x.meet(0, 2), -1);
            Check.due("a SECOND later " + body, x.meet(0, 3), 1);
            Check.due("either way " + body, x.meet(3, 0), 1);
        }
    }

    private static void meetThreeHundred() {
        Check.about("meet: from now on, 300 at most");
        BetweenThem x = atSecond(TWO, 299);
        Check.due("301 from now on", x.meet(0, 1), -1);
        x.seconds(1);
        Check.due("300 from now on", x.meet(0, 1), 600);
        x.seconds(1);
        Check.due("299 from now on", x.meet(0, 1), 600);
        BetweenThem y = Check.on("line 900;body 0;walker a 0 1;walker b 299 0;walker c 300 0;walker e 301 0;");
        Check.due("299", y.meet(0, 1), 299);
        Check.due("300", y.meet(0, 2), 300);
        Check.due("301", y.meet(0, 3), -1);
    }

    private static void meetSixHundred() {
        Check.about("meet: 600 too");
        BetweenThem x = atSecond(TWO, 599);
        Check.due("at the beginning of 600", x.meet(0, 1), 600);
        x.seconds(1);
        Check.due("they are together now", x.meet(0, 1), 600);
        BetweenThem y = atSecond("line 900;body 0;walker a 0 1;walker b 601 0;", 599);
        Check.due("601 is none", y.meet(0, 1), -1);
        y.seconds(1);
        Check.due("601 is none", y.meet(0, 1), -1);
    }

    private static void meetNone() {
        Check.about("meet: NONE: no such ones, alike");
        BetweenThem x = Check.on("walker a 0 0;walker b 0 0;");
        Check.due("together", x.meet(0, 1), 0);
        Check.due("alike", x.meet(0, 0), -1);
        Check.due("alike", x.meet(1, 1), -1);
        for (int w : NO_ONES) {
            Check.due("meet " + w + " 0", x.meet(w, 0), -1);
            Check.due("meet 0 " + w, x.meet(0, w), -1);
        }
        Check.due("nothing has gone", x.now(0), 0);
    }

    private static void runSixty() {
        Check.about("How far a DOG runs in n (1 to 60) SECONDS from now on; NONE: no such ones");
        BetweenThem x = Check.on("line 900;walker a 0 0;walker b 900 0;dog d a 7 0 other;");
        Check.due("1", x.run(0, 1), 7);
        Check.due("60", x.run(0, 60), 420);
        for (int n : new int[] {0, 61, -1, Integer.MIN_VALUE, Integer.MAX_VALUE}) {
            Check.due("run " + n, x.run(0, n), -1);
        }
        for (int d : new int[] {-1, 1, 2, Integer.MIN_VALUE, Integer.MAX_VALUE}) {
            Check.due("no dog " + d, x.run(d, 1), -1);
        }
        x.seconds(10);
        Check.due("from now on", x.run(0, 1), 7);
        Check.due("none has gone", x.now(0), 10);
    }

    private static void turnsSixty() {
        Check.about("How many TURNS it has in them; NONE: likewise");
        BetweenThem x = Check.on("walker a 0 0;walker b 0 0;dog d a 7 0 other;dog e a 1 9 near;");
        Check.due("1", x.turns(0, 1), 1);
        Check.due("60", x.turns(0, 60), 60);
        Check.due("60 of the other", x.turns(1, 60), 6);
        Check.due("11 of the other", x.turns(1, 11), 2);
        Check.due("10 of the other", x.turns(1, 10), 1);
        for (int n : new int[] {0, 61, -1, Integer.MIN_VALUE, Integer.MAX_VALUE}) {
            Check.due("turns " + n, x.turns(0, n), -1);
        }
        for (int d : new int[] {-1, 2, Integer.MIN_VALUE, Integer.MAX_VALUE}) {
            Check.due("no dog " + d, x.turns(d, 1), -1);
        }
        x.seconds(10);
        Check.due("from now on", x.turns(0, 60), 60);
    }

    private static void runTillTheEnd() {
        Check.about("SECONDS from now on (600: all are over)");
        BetweenThem x = atSecond("line 900;walker a 0 0;walker b 0 0;dog d a 7 0 other;", 598);
        Check.due("two are left", x.turns(0, 60), 2);
        x.seconds(1);
        Check.due("one is left", x.turns(0, 60), 1);
        x.seconds(1);
        Check.due("none is left", x.turns(0, 60), 0);
        Check.due("none is left", x.run(0, 60), 0);
        Check.due("not as told", x.run(0, 61), -1);
    }

    // ---- TWO

    private static void twoPaces() {
        Check.about("TWO: not both PACES 0");
        BetweenThem x = Check.on("walker a 0 0;walker b 10 0;walker c 10 1;walker e 30 9;");
        Check.dueThrows("both 0", () -> x.far(0, 1, 5, 0));
        Check.dueThrows("both 0", () -> x.near(0, 1, 5, 1, 0));
        Check.dueThrows("both 0", () -> x.ends(0, 1, 5));
        Check.due("one is 1", x.far(0, 2, 5, 0), 50);
        Check.due("one is 1", x.far(2, 0, 5, 1), 1);
        Check.due("1 and 9", x.far(2, 3, 10, 0), 20);
        Check.due("near", x.near(0, 2, 5, 1, 0), 25);
        Check.due("near", x.near(0, 2, 5, 1, 1), 3);
    }

    private static void twoGap() {
        Check.about("TWO: GAP above 0");
        BetweenThem x = Check.on("walker a 10 1;walker b 10 2;walker c 11 2;walker e 9 2;");
        Check.dueThrows("gap 0", () -> x.far(0, 1, 5, 0));
        Check.dueThrows("gap 0", () -> x.near(0, 1, 5, 1, 0));
        Check.dueThrows("gap 0", () -> x.ends(0, 1, 5));
        Check.dueThrows("alike", () -> x.far(2, 2, 5, 0));
        Check.due("gap 1", x.far(0, 2, 5, 0), 5);
        Check.due("gap 1", x.far(0, 2, 5, 1), 3);
        Check.due("gap 1 the other way", x.far(0, 3, 5, 0), 5);
    }

    private static void twoRunner() {
        Check.about("TWO: one of PACE u, above both PACES (1 to 99)");
        BetweenThem x = Check.on("walker a 0 4;walker b 10 9;walker c 20 0;walker e 30 1;");
        Check.dueThrows("as the one", () -> x.far(0, 1, 9, 0));
        Check.dueThrows("as the one, told first", () -> x.far(1, 0, 9, 0));
        Check.due("above both", x.far(0, 1, 10, 0), 100);
        Check.dueThrows("as the other", () -> x.far(0, 2, 4, 0));
        Check.due("above it", x.far(0, 2, 5, 0), 25);
        Check.dueThrows("u 1", () -> x.far(2, 3, 1, 0));
        Check.due("u 2", x.far(2, 3, 2, 0), 20);
        Check.due("u 99", x.far(2, 3, 99, 0), 990);
        for (int u : new int[] {100, 0, -1, Integer.MIN_VALUE, Integer.MAX_VALUE}) {
            Check.dueThrows("far " + u, () -> x.far(2, 3, u, 0));
            Check.dueThrows("near " + u, () -> x.near(2, 3, u, 1, 0));
            Check.dueThrows("ends " + u, () -> x.ends(2, 3, u));
        }
        Check.dueThrows("near as the one", () -> x.near(0, 1, 9, 1, 0));
        Check.dueThrows("ends as the one", () -> x.ends(0, 1, 9));
        Check.due("near above", x.near(0, 1, 10, 1, 1), 19);
        // 10 by 6/19, then by 1/14
        Check.due("ends above", x.ends(0, 1, 10), 2);
    }

    private static void farTold() {
        Check.about("far: by their places and PACES now, whatever way they go; NoSuchElementException: no such ones");
        BetweenThem x = Check.on("walker a 0 3;walker b 30 2;");
        Check.due("above", x.far(0, 1, 7, 0), 42);
        Check.due("below", x.far(0, 1, 7, 1), 1);
        x.stop(0);
        x.turn(1);
        x.turn(0);
        Check.due("whatever way", x.far(0, 1, 7, 0), 42);
        x.seconds(1);
        Check.due("by their places now", x.far(0, 1, 5, 0), 28);
        for (int w : NO_ONES) {
            Check.dueThrows("far " + w + " 1", () -> x.far(w, 1, 7, 0));
            Check.dueThrows("far 0 " + w, () -> x.far(0, w, 7, 0));
            Check.dueThrows("far what " + w, () -> x.far(0, 1, 7, w));
        }
    }

    private static void nearTold() {
        Check.about("near: n 1 to 6; it runs from the first WALKER told; NoSuchElementException: likewise");
        BetweenThem x = Check.on("walker a 0 1;walker b 400 3;");
        // from a: (u - 1) by (u + 3), then (u - 3) by (u + 1); u is 5: 4/8, 2/6
        long[][] due = {{200, 1}, {200, 3}, {100, 3}, {100, 9}, {50, 9}, {50, 27}};
        for (int n = 1; n <= 6; n++) {
            Check.due("near " + n, x.near(0, 1, 5, n, 0), due[n - 1][0]);
            Check.due("near " + n, x.near(0, 1, 5, n, 1), due[n - 1][1]);
        }
        Check.due("from b", x.near(1, 0, 5, 1, 0), 400);
        Check.due("from b", x.near(1, 0, 5, 1, 1), 3);
        for (int n : new int[] {0, 7, -1, Integer.MIN_VALUE, Integer.MAX_VALUE}) {
            Check.dueThrows("near n " + n, () -> x.near(0, 1, 5, n, 0));
        }
        for (int w : NO_ONES) {
            Check.dueThrows("near " + w + " 1", () -> x.near(w, 1, 7, 1, 0));
            Check.dueThrows("near 0 " + w, () -> x.near(0, w, 7, 1, 0));
            Check.dueThrows("near what " + w, () -> x.near(0, 1, 7, 1, w));
        }
    }

    private static void nearGreatest() {
        Check.about("near: a long");
        BetweenThem x = Check.on("line 900;walker a 0 7;walker b 900 9;walker c 899 1;walker e 897 2;");
        for (int u = 10; u <= 99; u++) {
            for (int v = 1; v < 4; v++) {
                if (u % 11 != 0 && u != 97) {
                    continue;
                }
                int pace = new int[] {7, 9, 1, 2}[v];
                BigInteger above = BigInteger.valueOf(new int[] {0, 900, 899, 897}[v]);
                above = above.multiply(BigInteger.valueOf(u - 7).pow(3)).multiply(BigInteger.valueOf(u - pace).pow(3));
                BigInteger below = BigInteger.valueOf(u + pace).pow(3).multiply(BigInteger.valueOf(u + 7).pow(3));
                BigInteger shared = above.gcd(below);
                Check.due("u " + u, x.near(0, v, u, 6, 0), above.divide(shared).longValueExact());
                Check.due("u " + u, x.near(0, v, u, 6, 1), below.divide(shared).longValueExact());
            }
        }
    }

    private static void endsTold() {
        Check.about("The first of its TURNS (1 to 6) at which they are BODY apart at most; NONE: none of these");
        // a third each time
        String men = "walker a 0 1;walker b 729 1;walker c 728 1;walker e 730 1;";
        for (int body = 0; body <= 9; body++) {
            BetweenThem x = Check.on("line 900;body " + body + ";" + men);
            Check.due("729, BODY " + body, x.ends(0, 1, 2), body == 0 ? -1 : body < 3 ? 6 : body < 9 ? 5 : 4);
            Check.due("728, BODY " + body, x.ends(0, 2, 2), body == 0 ? -1 : body < 3 ? 6 : body < 9 ? 5 : 4);
            Check.due("730, BODY " + body, x.ends(0, 3, 2), body < 2 ? -1 : body < 4 ? 6 : 5);
        }
        BetweenThem y = Check.on("body 9;walker a 0 1;walker b 1 1;");
        Check.due("at the first", y.ends(0, 1, 99), 1);
        for (int w : NO_ONES) {
            Check.dueThrows("ends " + w + " 1", () -> y.ends(w, 1, 7));
            Check.dueThrows("ends 0 " + w, () -> y.ends(0, w, 7));
        }
    }

    private static void fractions() {
        Check.about("All fractions are told by two numbers: 0 above, 1 below, in least terms");
        BetweenThem x = Check.on("walker a 0 4;walker b 12 2;walker c 7 3;");
        int[][] due = {{5, 10, 1}, {6, 12, 1}, {7, 14, 1}, {99, 198, 1}};
        for (int[] d : due) {
            Check.due("far " + d[0], x.far(0, 1, d[0], 0), d[1]);
            Check.due("far " + d[0], x.far(0, 1, d[0], 1), d[2]);
        }
        Check.due("no common one", x.far(0, 2, 5, 0), 5);
        Check.due("35 by 7", x.far(0, 2, 5, 1), 1);
        Check.due("8 by 7 by 7", x.far(0, 2, 8, 0), 8);
        Check.due("5 by 5 by 5", x.far(1, 2, 5, 0), 5);
        Check.due("6 by 5 by 5", x.far(1, 2, 6, 0), 6);
        BetweenThem y = Check.on("walker a 0 4;walker b 9 2;");
        Check.due("45 by 6", y.far(0, 1, 5, 0), 15);
        Check.due("45 by 6", y.far(0, 1, 5, 1), 2);
    }

    private static void throwingChangesNothing() {
        Check.about("A call that throws changes nothing");
        String beach = "line 100;keeps 5;walker a 0 4;walker b 12 2;dog d a 9 1 other;";
        BetweenThem x = atSecond(beach, 9);
        BetweenThem y = atSecond(beach, 9);
        for (BetweenThem z : new BetweenThem[] {x, y}) {
            z.turn(1);
            Check.sentence(z, "hangs");
            Check.log(z, 0, "second 2;b walks;");
            z.feed(1, 2, 3, 4, 5);
        }
        Check.dueThrows("walker", () -> x.walker(2, 0));
        Check.dueThrows("walker", () -> x.walker(0, 7));
        Check.dueThrows("dog", () -> x.dog(1, 0));
        Check.dueThrows("dog", () -> x.dog(0, 7));
        Check.dueThrows("far", () -> x.far(0, 1, 3, 0));
        Check.dueThrows("near", () -> x.near(0, 1, 9, 7, 0));
        Check.dueThrows("near", () -> x.near(0, 1, 9, 6, 2));
        Check.dueThrows("ends", () -> x.ends(0, 0, 9));
        Agree.alike("behind all that threw", x, y);
        Agree.alikeToTheLast("behind all that threw", x, y);
    }

    // ---- ROUND

    private static void roundTold() {
        Check.about("ROUND of a DOG: how many TURNS; NONE: there is nobody to whom it could go, no such one");
        for (String law : new String[] {"other", "last", "call"}) {
            StringBuilder s = new StringBuilder();
            for (int men = 1; men <= 6; men++) {
                s.append("walker ").append((char) ('a' + men)).append(" 7 0;");
                BetweenThem x = Check.on(s + "dog x b 1 0 " + law + ";");
                Check.due(law + " of " + men, x.round(0), men == 1 ? -1 : men);
                Check.due(law + " of " + men, x.circle(0), men == 1 ? -1 : (1 << men) - 1);
            }
        }
        BetweenThem x = Check.on("walker a 0 0;walker b 0 0;dog d a 1 0 near;");
        Check.due("two", x.round(0), 2);
        Check.due("two", x.circle(0), 3);
        for (int d : new int[] {-1, 1, 2, Integer.MIN_VALUE, Integer.MAX_VALUE}) {
            Check.due("round " + d, x.round(d), -1);
            Check.due("circle " + d, x.circle(d), -1);
        }
    }

    private static void roundByOrder() {
        Check.about("ROUND: last: by TURNS, in the order in which it saw them");
        BetweenThem x = Check.on("walker a 0 0;walker b 0 0;walker c 0 0;walker e 0 0;dog d c 1 0 last;");
        for (int i = 0; i < 8; i++) {
            Check.due("all four behind " + i, x.round(0), 4);
            Check.due("all four behind " + i, x.circle(0), 15);
            x.throwStick(i % 3);
            x.seconds(1);
        }
    }

    private static void roundByPlaces() {
        Check.about("ROUND: nobody walked from now on, nobody called, had the stick, the DOG were where it was last");
        String men = "walker a 0 9;walker b 30 0;walker c 50 0;walker e 71 0;";
        BetweenThem x = Check.on(men + "dog d a 3 0 near;");
        Check.due("b and c", x.circle(0), 6);
        x.throwStick(0);
        Check.due("as if nobody had it", x.circle(0), 6);
        x.stop(0);
        Check.due("who stands and who walks", x.circle(0), 6);
        BetweenThem y = Check.on(men + "dog d a 3 0 near;");
        y.seconds(4);
        // a is at 36
        Check.due("a and b are nearest to one another", y.circle(0), 3);
        Check.due("it is on its way", y.dog(0, 4) >= 0, true);
        BetweenThem z = Check.on("walker a 0 0;walker b 50 0;walker c 52 0;walker e 98 0;walker f 99 0;"
                + "dog d a 9 0 near;");
        z.throwStick(4);
        z.seconds(9);
        Check.due("it is at 81, on its way to f, but was by a last", z.circle(0), 6);
        z.seconds(2);
        Check.due("by f last", z.circle(0), 24);
        BetweenThem called = Check.on("walker a 0 0;walker b 50 0;walker c 52 0;dog d a 9 0 call;");
        called.call(2);
        Check.due("as other", called.round(0), 3);
    }

    // ---- strays and STOP for the least

    private static void strayTwoHundred() {
        Check.about("The first SECOND (from now on, 200 at most) behind which somebody HANGS back");
        for (int keeps : new int[] {1, 2, 98, 99}) {
            BetweenThem x = Check.on("keeps " + keeps + ";walker a 0 0;");
            Check.due("keeps " + keeps, x.strays(), keeps - 1);
            Check.pass(x, keeps - 1);
            Check.due("at once", x.strays(), keeps - 1);
            x.seconds(1);
            Check.due("he does already", x.strays(), keeps);
        }
        // b walks away, and the dog needs longer from time to time
        String beach = "line 900;keeps 99;walker a 0 0;walker b 40 1;dog d a 9 0 other;";
        int due = 0;
        while (atSecond(beach, due + 1).now(3) == 0 && due < 600) {
            due++;
        }
        Check.due("late enough for it", due > 200, true);
        Check.due("the 201st from now on", atSecond(beach, due - 200).strays(), -1);
        Check.due("the 200th from now on", atSecond(beach, due - 199).strays(), due);
        Check.due("the first from now on", atSecond(beach, due).strays(), due);
    }

    private static void strayAtOnce() {
        Check.about("strays: NONE: not so soon");
        Check.due("no KEEPS", Check.on("walker a 0 0;walker b 9 0;").strays(), -1);
        Check.due("no WALKERS", Check.on("keeps 1;").strays(), -1);
        Check.due("all are kept", Check.on("keeps 2;walker a 0 0;walker b 0 0;dog d a 1 0 other;").strays(), -1);
        Check.due("one less", Check.on("keeps 1;walker a 0 0;walker b 0 0;dog d a 1 0 other;").strays(), 0);
        BetweenThem x = atSecond("keeps 99;walker a 0 0;", 600);
        Check.due("he hangs back", x.now(3), 1);
        Check.due("but no SECOND is left", x.strays(), -1);
        x.undo();
        x.seconds(59);
        Check.due("the last", x.strays(), 599);
    }

    private static void leastThirty() {
        Check.about("STOP for the least: the SECOND s (0 to 30 from now on)");
        // he comes by 5 a SECOND: the nearer he is, the less the dog runs
        for (int s : new int[] {0, 1, 2, 15, 29, 30}) {
            String beach = "walker a " + 5 * s + " 5 back;walker b 0 0;dog d b 30 0 other;";
            BetweenThem x = Check.on(beach);
            Check.due("he is there behind " + s, x.least(0, 0), s);
        }
        BetweenThem away = Check.on("walker a 10 5;walker b 0 0;dog d b 30 0 other;");
        Check.due("if he goes away: at once", away.least(0, 0), 0);
        Check.due("10 in each SECOND", away.runs(0, 0), 400);
        BetweenThem far = Check.on("walker a 155 5 back;walker b 0 0;dog d b 30 0 other;");
        Check.due("31 is too late", far.least(0, 0), 30);
        far.seconds(1);
        Check.due("from now on", far.least(0, 0), 30);
    }

    private static void leastForty() {
        Check.about("STOP for the least: a DOG runs least in 40 SECONDS from now on");
        BetweenThem x = Check.on("line 900;walker a 900 0;walker b 0 0;dog d b 7 0 other;");
        Check.due("40 by 7", x.runs(0, 0), 280);
        Check.due("40 by 7", x.runs(1, 0), 280);
        Check.pass(x, 560);
        int before = x.run(0, 40);
        Check.due("just 40 are left", x.runs(0, 0), before);
        x.seconds(1);
        Check.due("39 are left", x.runs(0, 0), x.run(0, 39));
        x.seconds(38);
        Check.due("one is left", x.runs(0, 0), x.run(0, 1));
        Check.due("one is left", x.runs(0, 0) > 0, true);
        x.seconds(1);
        Check.due("none is left", x.runs(0, 0), 0);
        Check.due("the first", x.least(0, 0), 0);
    }

    private static void leastLike() {
        Check.about("STOP for the least: of like ones the first; if a WALKER goes s SECONDS as he does, then stands");
        BetweenThem x = Check.on("walker a 5 5 back;walker b 0 0;walker c 9 0;dog d b 30 0 near;dog e c 1 9 other;");
        x.stop(0);
        Check.due("he stands anyhow", x.least(0, 0), 0);
        Check.due("pace 0", x.least(1, 0), 0);
        x.walk(0);
        Check.due("from 1 on all are alike", x.least(0, 0), 1);
        Check.due("with it", x.runs(0, 0), 0);
        Check.due("nothing changed", x.walker(0, 3), 1);
        Check.due("nothing changed", x.walker(0, 0), 5);
        Check.due("nothing to undo", x.undo(), 1);
    }

    private static void leastNone() {
        Check.about("least, runs: NONE: no such ones");
        BetweenThem x = Check.on("walker a 5 5 back;walker b 0 0;dog d b 30 0 near;");
        for (int n : NO_ONES) {
            Check.due("least " + n + " 0", x.least(n, 0), -1);
            Check.due("least 0 " + n, x.least(0, n), -1);
            Check.due("runs " + n + " 0", x.runs(n, 0), -1);
            Check.due("runs 0 " + n, x.runs(0, n), -1);
        }
        Check.due("one dog alone", x.least(0, 1), -1);
        Check.due("one dog alone", x.runs(0, 1), -1);
        Check.due("no dog", Check.on("walker a 5 5;").least(0, 0), -1);
    }

    // ---- PRINTS

    private static int prints(BetweenThem x, int... tape) {
        Check.bytes(x, tape);
        int answer = x.prints();
        Check.due("the tape is empty then", x.count(5), 0);
        return answer;
    }

    private static void printsPairs() {
        Check.about("PRINTS by the tape (pairs of bytes; 1 to 10 of them); NONE: not as told");
        BetweenThem x = Check.on("walker a 0 0;walker b 9 0;");
        for (int n = 0; n <= 24; n++) {
            boolean told = n % 2 == 0 && n >= 2 && n <= 20;
            Check.due(n + " bytes", prints(x, new int[n]), told ? 1 : -1);
        }
        Check.due("a full tape", prints(x, new int[940]), -1);
        Check.due("no walkers", prints(new BetweenThem(), 0, 0), 0);
        Check.due("no walkers, not as told", prints(new BetweenThem(), 0), -1);
    }

    private static void printsCut() {
        Check.about("PRINTS: a place by 4 (cut)");
        BetweenThem x = Check.on("walker a 0 0;walker b 3 0;walker c 4 0;walker e 7 0;walker f 8 0;walker g 400 0;");
        Check.due("0 to 3", prints(x, 0, 0), 3);
        Check.due("4 to 7", prints(x, 0, 1), 12);
        Check.due("8 to 11", prints(x, 0, 2), 16);
        Check.due("400", prints(x, 0, 100), 32);
        Check.due("none", prints(x, 0, 99), 0);
    }

    private static void printsUnsigned() {
        Check.about("PRINTS: bytes: how many SECONDS from now on, a place by 4");
        BetweenThem x = Check.on("line 900;walker a 900 0;walker b 512 0;walker c 508 0;walker e 0 1;walker f 0 2;");
        Check.due("225", prints(x, 0, 225), 1);
        Check.due("128", prints(x, 0, 128), 2);
        Check.due("127", prints(x, 0, 127), 4);
        Check.due("behind 255", prints(x, 255, 63), 8);
        Check.due("behind 255", prints(x, 255, 127), 20);
        Check.due("behind 128", prints(x, 128, 32), 8);
        Check.due("behind 127", prints(x, 127, 31), 8);
        Check.due("255 is no place", prints(x, 0, 255), 0);
    }

    private static void printsAll() {
        Check.about("PRINTS: WALKERS who would be there then, if nothing is done");
        BetweenThem x = Check.on("line 900;keeps 5;walker a 0 4;walker b 0 4;walker c 0 0;");
        Check.due("at first all", prints(x, 0, 0), 7);
        Check.due("then a and b", prints(x, 0, 0, 3, 3), 3);
        Check.due("who hang back from 5 on", prints(x, 9, 5), 3);
        Check.due("told in any order", prints(x, 9, 5, 0, 0, 1, 1), 3);
        Check.due("one alone is wrong", prints(x, 9, 5, 0, 0, 1, 2), 0);
        Check.due("nothing has gone", x.now(0), 0);
        x.seconds(3);
        Check.due("from now on", prints(x, 0, 3), 3);
        x.stop(0);
        Check.due("a stands", prints(x, 1, 4), 2);
    }

    private static void printsLate() {
        Check.about("PRINTS: above SECOND 600: nobody");
        BetweenThem x = atSecond("walker a 0 0;", 345);
        Check.due("600", prints(x, 255, 0), 1);
        x.seconds(1);
        Check.due("600", prints(x, 254, 0), 1);
        Check.due("601", prints(x, 255, 0), 0);
        Check.pass(x, 254);
        Check.due("at 600, now", prints(x, 0, 0), 1);
        Check.due("at 600, one later", prints(x, 1, 0), 0);
        Check.due("one of two above", prints(x, 0, 0, 1, 0), 0);
        Check.due("one of two above", prints(x, 1, 0, 0, 0), 0);
    }

    // ---- JUDGED

    private static int judge(BetweenThem x, int d, int... tape) {
        Check.bytes(x, tape);
        int answer = x.judge(d);
        Check.due("the tape is empty then", x.count(5), 0);
        return answer;
    }

    private static int[] toAndFro(int n) {
        int[] row = new int[n];
        for (int i = 0; i < n; i++) {
            row[i] = (i + 1) % 2;
        }
        return row;
    }

    private static void judgeBytes() {
        Check.about("judge: -2: not as told (1 to 40 bytes, WALKERS)");
        BetweenThem x = Check.on("walker a 0 0;walker b 0 0;dog d a 1 0 other;");
        Check.due("0 bytes", judge(x, 0), -2);
        Check.due("1 byte", judge(x, 0, toAndFro(1)), -1);
        Check.due("40 bytes", judge(x, 0, toAndFro(40)), -1);
        Check.due("41 bytes", judge(x, 0, toAndFro(41)), -2);
        Check.due("a full tape", judge(x, 0, new int[940]), -2);
        Check.due("no such walker", judge(x, 0, 2), -2);
        Check.due("no such walker behind one that is wrong", judge(x, 0, 0, 2), -2);
        Check.due("255", judge(x, 0, 255), -2);
        int[] wrong = toAndFro(40);
        wrong[39] = 1;
        Check.due("the last is wrong", judge(x, 0, wrong), 39);
        wrong[0] = 0;
        Check.due("the first is wrong", judge(x, 0, wrong), 0);
    }

    private static void judgeThreeHundred() {
        Check.about("JUDGED: the first that would not be so (in 300 SECONDS)");
        String[] beaches = {"walker b 299 0;", "walker b 300 0;", "walker b 301 0;"};
        int[] due = {-1, -1, 0};
        for (int i = 0; i < 3; i++) {
            BetweenThem x = Check.on("line 900;walker a 0 0;" + beaches[i] + "dog d a 1 0 other;");
            Check.due(beaches[i], judge(x, 0, 1), due[i]);
            Check.due(beaches[i] + " and one more", judge(x, 0, 1, 0), due[i] + (due[i] < 0 ? 2 : 0));
        }
        BetweenThem late = atSecond("line 900;walker a 0 0;walker b 0 0;dog d a 1 9 other;", 590);
        Check.due("the TURN of 590", judge(late, 0, late.next(0)), -1);
        Check.due("no TURN behind 599", judge(late, 0, late.next(0), 1 - late.next(0)), 1);
        late.seconds(10);
        Check.due("none is left", judge(late, 0, 0), 0);
    }

    private static void judgeNone() {
        Check.about("judge: -2: no such one");
        BetweenThem x = Check.on("walker a 0 0;walker b 0 0;dog d a 1 0 other;");
        for (int d : new int[] {-1, 1, 2, Integer.MIN_VALUE, Integer.MAX_VALUE}) {
            Check.due("dog " + d, judge(x, d, 1), -2);
        }
        BetweenThem alone = Check.on("walker a 0 0;dog d a 1 0 other;");
        Check.due("it sees nobody", judge(alone, 0, 0), 0);
        Check.due("nothing has gone", x.now(0), 0);
    }

    // ---- LAWS

    private static int laws(BetweenThem x, int... tape) {
        Check.bytes(x, tape);
        int answer = x.laws();
        Check.due("the tape is empty then", x.count(5), 0);
        return answer;
    }

    private static void lawsBytes() {
        Check.about("laws: NONE: not as told (2 to 40 bytes, WALKERS, no two alike behind one another)");
        BetweenThem x = Check.on("walker a 0 0;walker b 0 0;");
        Check.due("0 bytes", laws(x), -1);
        Check.due("1 byte", laws(x, 0), -1);
        Check.due("2 bytes", laws(x, 0, 1), 7);
        Check.due("40 bytes", laws(x, toAndFro(40)), 7);
        Check.due("41 bytes", laws(x, toAndFro(41)), -1);
        Check.due("a full tape", laws(x, toAndFro(940)), -1);
        Check.due("no such walker", laws(x, 0, 2), -1);
        Check.due("no such walker", laws(x, 2, 0), -1);
        Check.due("255", laws(x, 0, 255), -1);
        Check.due("alike at first", laws(x, 0, 0, 1), -1);
        Check.due("alike at last", laws(x, 0, 1, 0, 0), -1);
        Check.due("none at all", laws(new BetweenThem(), 0, 1), -1);
    }

    private static void lawsBits() {
        Check.about("LAWS: 1 other, 2 near, 4 last, as bits; nobody moves, calls, has the stick");
        BetweenThem x = Check.on("walker a 0 9;walker b 30 0;walker c 40 0;walker e 90 0;");
        x.call(3);
        x.throwStick(3);
        Check.due("to e", laws(x, 0, 3), 0);
        Check.due("other and last and near", laws(x, 0, 1), 7);
        Check.due("other, near", laws(x, 1, 2), 3);
        Check.due("near alone", laws(x, 0, 1, 2, 1), 2);
        Check.due("other and last", laws(x, 3, 0, 1, 2, 3), 5);
        Check.due("other alone", laws(x, 1, 2, 3, 0), 1);
        Check.due("last alone", laws(x, 1, 0, 2, 3, 1, 0), 4);
        Check.due("near, last", laws(x, 3, 2), 2);
        x.seconds(2);
        Check.due("a is at 18 now: he is nearest to b no more than c", laws(x, 1, 2), 3);
        x.seconds(1);
        Check.due("a is at 27 now", laws(x, 1, 0), 6);
    }

    private static void lawsLast() {
        Check.about("LAWS: last (nobody was seen ahead of that)");
        BetweenThem x = Check.on("walker a 0 0;walker b 0 0;walker c 0 0;dog d a 9 0 last;");
        x.seconds(2);
        Check.due("whatever the dog saw so far", laws(x, 1, 0, 2, 1), 4);
        Check.due("from c", laws(x, 2, 0, 1, 2) & 4, 4);
        Check.due("from c, not so", laws(x, 2, 0, 2) & 4, 0);
        Check.due("the dog is as it was", x.dog(0, 6), 2);
    }

    // ---- DRAWN

    private static void drawnTold() {
        Check.about("n (1 to 60) SECONDS DRAWN by a seed: how many went by; NONE: not as told, no WALKERS");
        BetweenThem x = Check.on("walker a 0 1;");
        for (int n : new int[] {0, 61, -1, Integer.MIN_VALUE, Integer.MAX_VALUE}) {
            Check.due("drawn " + n, x.drawn(n, 1), -1);
        }
        Check.due("none went", x.now(0), 0);
        Check.due("1", x.drawn(1, 1), 1);
        Check.due("60", x.drawn(60, 1), 60);
        Check.due("no WALKERS", new BetweenThem().drawn(1, 1), -1);
        Check.pass(x, 537);
        Check.due("598", x.now(0), 598);
        Check.due("two are left", x.drawn(60, 1), 2);
        Check.due("they can be undone", x.undo() > 0, true);
        x.seconds(1);
        Check.due("one is left", x.drawn(60, 1), 1);
        Check.due("it can be undone", x.undo() > 0, true);
        Check.due("599", x.now(0), 599);
        x.drawn(1, 1);
        Check.due("none is left", x.drawn(1, 1), 0);
    }

    private static void drawnWraps() {
        Check.about("DRAWN: x becomes x * 1103515245 + 12345 (an int, wrapping), the draw is (x >>> 8) % n");
        for (int seed : new int[] {0, -1, 1, Integer.MAX_VALUE, Integer.MIN_VALUE, 0x7FFFFF00, 0x80000100}) {
            String beach = "line 900;walker a 450 1;walker b 450 2 back;walker c 450 3;";
            BetweenThem x = Check.on(beach);
            BetweenThem y = Check.on(beach);
            BigInteger s = BigInteger.valueOf(seed);
            BigInteger whole = BigInteger.ONE.shiftLeft(32);
            for (int i = 0; i < 25; i++) {
                for (int w = 0; w < 3; w++) {
                    s = s.multiply(BigInteger.valueOf(1103515245)).add(BigInteger.valueOf(12345)).mod(whole);
                    int draw = s.shiftRight(8).mod(BigInteger.valueOf(12)).intValueExact();
                    if (draw == 0 && y.stop(w) == 1) {
                        y.walk(w);
                    } else if (draw == 1) {
                        y.turn(w);
                    } else if (draw == 2) {
                        y.call(w);
                    } else if (draw == 3) {
                        y.throwStick(w);
                    }
                }
                y.seconds(1);
            }
            Check.due("drawn", x.drawn(25, seed), 25);
            Agree.alike("by " + seed, x, y);
        }
    }

    private static void drawnEach() {
        Check.about("DRAWN: each SECOND: a draw of 12: 0: he stops or walks (the other), 1: he turns, 2: he calls,"
                + " 3: he throws, if he can; then the SECOND");
        int[] found = new int[12];
        for (int seed = 0; seed < 200; seed++) {
            int draw = (seed * 1103515245 + 12345 >>> 8) % 12;
            found[draw]++;
            BetweenThem x = Check.on("walker a 50 3;");
            x.drawn(1, seed);
            Check.due("walks by " + draw, x.walker(0, 3), draw == 0 ? 0 : 1);
            Check.due("back by " + draw, x.walker(0, 2), draw == 1 ? 1 : 0);
            Check.due("called by " + draw, x.now(2), draw == 2 ? 0 : -1);
            Check.due("stick by " + draw, x.now(1), draw == 3 ? 0 : -1);
            Check.due("place by " + draw, x.walker(0, 0), draw == 0 ? 50 : draw == 1 ? 47 : 53);
            BetweenThem y = Check.on("walker a 50 3;");
            y.stop(0);
            y.throwStick(0);
            y.drawn(1, seed);
            Check.due("walks by " + draw, y.walker(0, 3), draw == 0 ? 1 : 0);
            Check.due("stick by " + draw, y.now(1), 0);
        }
        for (int draw = 0; draw < 12; draw++) {
            Check.due("there is a seed for " + draw, found[draw] > 0, true);
        }
    }

    private static void oddsTold() {
        Check.about("Of n (1 to 30) seeds by how many a WALKER is seen; NONE: no such ones");
        BetweenThem x = Check.on("walker a 0 0;walker b 0 0;dog d a 1 0 other;");
        Check.due("1", x.odds(0, 1, 1), 1);
        Check.due("30", x.odds(1, 30, 1), 30);
        for (int n : new int[] {0, 31, -1, Integer.MIN_VALUE, Integer.MAX_VALUE}) {
            Check.due("odds " + n, x.odds(0, n, 1), -1);
        }
        for (int w : NO_ONES) {
            Check.due("walker " + w, x.odds(w, 1, 1), -1);
        }
        Check.due("none went", x.now(0), 0);
        Check.due("nothing to undo", x.undo(), -1);
        Check.pass(x, 599);
        Check.due("one SECOND is left", x.odds(0, 30, 1) + x.odds(1, 30, 1) > 0, true);
        x.seconds(1);
        Check.due("none is left", x.odds(0, 30, 1), 0);
        Check.due("seen so far does not count", x.walker(0, 5) > 0, true);
    }

    private static void oddsWrap() {
        Check.about("odds: seeds x, x and 1, ..");
        String beach = "line 100;walker a 0 5;walker b 90 2;walker c 60 9 back;dog d a 3 2 call;";
        for (int seed : new int[] {Integer.MAX_VALUE - 2, Integer.MIN_VALUE, -3, 0}) {
            for (int w = 0; w < 3; w++) {
                int often = 0;
                for (int i = 0; i < 6; i++) {
                    BetweenThem y = Check.on(beach);
                    y.drawn(30, seed + i);
                    often += y.walker(w, 5) > 0 ? 1 : 0;
                }
                Check.due("odds " + w + " by " + seed, Check.on(beach).odds(w, 6, seed), often);
            }
        }
    }

    private static void oddsThirtySeconds() {
        Check.about("odds: in 30 SECONDS DRAWN from now on");
        // it needs 30 SECONDS to b, 31 to the other b, whatever is drawn: nobody has a pace
        BetweenThem x = Check.on("walker a 0 0;walker b 30 0;dog d a 1 0 other;");
        Check.due("just 30", x.odds(1, 9, 5), 9);
        BetweenThem y = Check.on("walker a 0 0;walker b 31 0;dog d a 1 0 other;");
        Check.due("31", y.odds(1, 9, 5), 0);
        y.seconds(1);
        Check.due("from now on", y.odds(1, 9, 5), 9);
    }
}
