/** Promises 16 to 19, 28 to 30, 37: gaps, and what would be if nothing is done. */
public final class ForeseenTest {
    private static final String BEACH = "line 100;body 2;keeps 9;walker ann 0 1;walker bob 60 2 back;"
            + "walker cid 100 0;dog rex ann 10 1 other;dog pip cid 5 0 near;tires rex 4;";

    public static void main(String[] args) {
        gaps();
        meeting();
        meetingLate();
        running();
        straying();
        strayingLate();
        leastByHand();
        leastByLogs();
        leastAtTheEdges();
        oddsByDraws();
        Check.finish();
    }

    private static void gaps() {
        BetweenThem x = Check.on(BEACH);
        Check.due("gap", x.gap(0, 1), 60);
        Check.due("gap", x.gap(1, 0), 60);
        Check.due("gap", x.gap(2, 2), 0);
        x.seconds(7);
        Check.due("gap", x.gap(0, 1), 39);
        for (int w : new int[] {-1, 3, 6, Integer.MIN_VALUE}) {
            Check.due("gap", x.gap(w, 0), -1);
            Check.due("gap", x.gap(0, w), -1);
            Check.due("meet", x.meet(w, 0), -1);
            Check.due("meet", x.meet(0, w), -1);
        }
    }

    private static void meeting() {
        BetweenThem x = Check.on("body 0;walker a 0 2;walker b 21 3 back;walker c 22 0;");
        Check.due("a and b", x.meet(0, 1), -1);
        Check.due("alike", x.meet(1, 1), -1);
        Check.due("b and c", x.meet(1, 2), -1);
        Check.beach(x, "body 1;walker a 0 2;walker b 20 3 back;walker c 21 0;");
        Check.due("b and c now", x.meet(1, 2), 0);
        Check.due("a and b", x.meet(0, 1), 4);
        Check.due("a and c", x.meet(2, 0), 10);
        Check.due("nothing has gone", x.now(0), 0);
        x.seconds(3);
        Check.due("a and b", x.meet(0, 1), 4);
        x.seconds(2);
        Check.due("a and b have passed", x.meet(0, 1), -1);
        x.turn(1);
        Check.due("b comes from behind", x.meet(0, 1), 9);
    }

    private static void meetingLate() {
        BetweenThem x = Check.on("line 900;body 0;walker a 0 1;walker b 300 0;walker c 301 0;walker d 600 0;");
        Check.due("300 at most", x.meet(0, 1), 300);
        Check.due("301", x.meet(0, 2), -1);
        x.seconds(1);
        Check.due("301, 300 from now on", x.meet(0, 2), 301);
        for (int i = 0; i < 9; i++) {
            x.seconds(60);
        }
        Check.due("600 too", x.meet(0, 3), 600);
        x.seconds(60);
        Check.due("at 600", x.meet(0, 3), 600);
        Check.due("at 600 not", x.meet(0, 2), -1);
    }

    private static void running() {
        BetweenThem x = Check.on(BEACH);
        for (int n = 1; n <= 60; n++) {
            BetweenThem y = Check.on(BEACH);
            y.seconds(n);
            for (int d = 0; d < 2; d++) {
                Check.due("run in " + n, x.run(d, n), y.dog(d, 2));
                Check.due("turns in " + n, x.turns(d, n), y.dog(d, 3));
            }
        }
        x.seconds(17);
        BetweenThem z = Check.on(BEACH);
        z.seconds(17 + 30);
        Check.due("run from 17", x.run(0, 30), z.dog(0, 2) - x.dog(0, 2));
        Check.due("turns from 17", x.turns(1, 30), z.dog(1, 3) - x.dog(1, 3));
        Check.due("nothing has gone", x.now(0), 17);
        for (int n : new int[] {0, -1, 61, Integer.MAX_VALUE}) {
            Check.due("run", x.run(0, n), -1);
            Check.due("turns", x.turns(0, n), -1);
        }
        for (int d : new int[] {-1, 2, Integer.MAX_VALUE}) {
            Check.due("run", x.run(d, 5), -1);
            Check.due("turns", x.turns(d, 5), -1);
        }
    }

    private static void straying() {
        BetweenThem x = Check.on("keeps 99;walker a 0 0;walker b 0 0;dog d a 5 0 other;");
        Check.due("all are kept", x.strays(), -1);
        BetweenThem y = Check.on("keeps 5;walker a 0 0;walker b 0 0;walker c 0 0;dog d a 5 0 other;");
        Check.due("all are kept", y.strays(), -1);
        y.stop(0);
        y.throwStick(0);
        Check.due("all are kept", y.strays(), -1);
        BetweenThem z = Check.on("keeps 4;walker a 0 0;walker b 40 0;dog d a 5 0 other;");
        Check.due("behind the fourth", z.strays(), 3);
        z.seconds(4);
        Check.due("they hang back", z.now(3), 3);
        Check.due("so they do behind the next", z.strays(), 4);
        z.seconds(3);
        // in second 7 b is seen, a hangs back on
        Check.due("a still does", z.strays(), 7);
        BetweenThem end = Check.on("keeps 99;walker a 0 0;walker b 0 0;dog d a 5 0 other;");
        for (int i = 0; i < 10; i++) {
            end.seconds(60);
        }
        Check.due("none is left", end.strays(), -1);
    }

    /** The 200th second from now on is looked at, the one behind it is not. */
    private static void strayingLate() {
        String beach = "line 900;keeps 99;walker a 0 0;walker b 40 1;dog d a 9 0 other;";
        int first = 0;
        while (hanging(beach, first + 1) == 0 && first < 600) {
            first++;
        }
        Check.due("late enough for the test", first > 210, true);
        BetweenThem y = Check.on(beach);
        Check.pass(y, first - 200);
        Check.due("not so soon", y.strays(), -1);
        y.seconds(1);
        Check.due("the 200th", y.strays(), first);
    }

    private static int hanging(String beach, int second) {
        BetweenThem x = Check.on(beach);
        Check.pass(x, second);
        return x.now(3);
    }

    private static void leastByHand() {
        // b stands; a goes away from the dog at b, which is to run to a and back
        BetweenThem x = Check.on("line 900;walker a 10 9;walker b 0 0;dog d b 30 0 other;");
        Check.due("he ought to stand at once", x.least(0, 0), 0);
        Check.due("10 in each second", x.runs(0, 0), 400);
        BetweenThem y = Check.on("line 900;walker a 90 9 back;walker b 0 0;dog d b 30 0 other;");
        Check.due("he ought to come all the way", y.least(0, 0), 10);
        Check.due("him who stands: like ones", y.least(1, 0), 0);
        int before = y.run(0, 40);
        Check.due("him who stands", y.runs(1, 0), before);
        for (int w : new int[] {-1, 2, Integer.MAX_VALUE}) {
            Check.due("least", x.least(w, 0), -1);
            Check.due("runs", x.runs(w, 0), -1);
        }
        for (int d : new int[] {-1, 1, Integer.MAX_VALUE}) {
            Check.due("least", x.least(0, d), -1);
            Check.due("runs", x.runs(0, d), -1);
        }
    }

    /** The same by living it, for each second in which he might stop. */
    private static void leastByLogs() {
        BetweenThem x = Check.on(BEACH);
        int gone = 0;
        for (int step : new int[] {0, 3, 11, 60, 60}) {
            if (step > 0) {
                x.seconds(step);
                gone += step;
            }
            for (int w = 0; w < 3; w++) {
                for (int d = 0; d < 2; d++) {
                    int best = -1;
                    int bestRan = 0;
                    for (int s = 0; s <= 30; s++) {
                        int ran = ranIfStopped(BEACH, gone, w, d, s);
                        if (best < 0 || ran < bestRan) {
                            best = s;
                            bestRan = ran;
                        }
                    }
                    Check.due("least " + w + " " + d + " at " + gone, x.least(w, d), best);
                    Check.due("runs " + w + " " + d + " at " + gone, x.runs(w, d), bestRan);
                }
            }
        }
    }

    private static void leastAtTheEdges() {
        BetweenThem x = Check.on("walker a 5 5 back;walker b 0 0;dog d b 9 0 other;");
        Check.due("behind one second", x.least(0, 0), 1);
        Check.due("not a step", x.runs(0, 0), 0);
        String beach = "walker a 160 5 back;walker b 0 0;dog d b 30 0 other;";
        int best = 0;
        for (int s = 1; s <= 30; s++) {
            if (ranIfStopped(beach, 0, 0, 0, s) < ranIfStopped(beach, 0, 0, 0, best)) {
                best = s;
            }
        }
        Check.due("31 would be less", ranIfStopped(beach, 0, 0, 0, 31) < ranIfStopped(beach, 0, 0, 0, best), true);
        Check.due("30 at most", Check.on(beach).least(0, 0), best);
        Check.due("30 is the least of them", best, 30);
    }

    private static int ranIfStopped(String beach, int gone, int w, int d, int s) {
        BetweenThem y = Check.on(beach);
        for (int i = 0; i < gone; i++) {
            y.seconds(1);
        }
        int before = y.dog(d, 2);
        if (s > 0) {
            y.seconds(s);
        }
        y.stop(w);
        y.seconds(40 - s);
        return y.dog(d, 2) - before;
    }

    private static void oddsByDraws() {
        BetweenThem x = Check.on(BEACH);
        x.seconds(5);
        for (int seed : new int[] {0, 99, -3, Integer.MAX_VALUE}) {
            for (int w = 0; w < 3; w++) {
                int often = 0;
                for (int i = 0; i < 30; i++) {
                    BetweenThem y = Check.on(BEACH);
                    y.seconds(5);
                    int before = y.walker(w, 5);
                    y.drawn(30, seed + i);
                    if (y.walker(w, 5) > before) {
                        often++;
                    }
                    if (i == 0 || i == 6 || i == 29) {
                        Check.due("odds " + w + " of " + (i + 1), x.odds(w, i + 1, seed), often);
                    }
                }
            }
        }
        Check.due("nothing has gone", x.now(0), 5);
        for (int n : new int[] {0, -1, 31}) {
            Check.due("odds of " + n, x.odds(0, n, 1), -1);
        }
        for (int w : new int[] {-1, 3}) {
            Check.due("odds " + w, x.odds(w, 5, 1), -1);
        }
        BetweenThem none = Check.on("walker a 0 0;walker b 0 0;");
        Check.due("no dogs", none.odds(0, 30, 1), 0);
    }
}
