/** Promises 31, 32: prints and judged turns. */
public final class PrintsTest {
    private static final String BEACH = "line 100;keeps 20;walker a 0 1;walker b 60 2 back;walker c 100 0;"
            + "walker e 3 1;dog d a 10 1 other;dog f c 5 0 near;";

    public static void main(String[] args) {
        prints();
        printsByLiving();
        printsLate();
        wrongPrints();
        judging();
        judgingLate();
        wrongJudging();
        Check.finish();
    }

    private static int prints(BetweenThem x, int... tape) {
        Check.bytes(x, tape);
        return x.prints();
    }

    private static int judge(BetweenThem x, int d, int... tape) {
        Check.bytes(x, tape);
        return x.judge(d);
    }

    private static void prints() {
        BetweenThem x = Check.on(BEACH);
        Check.due("a and e", prints(x, 0, 0), 9);
        Check.due("e alone is above 3 then", prints(x, 0, 0, 1, 1), 8);
        Check.due("in any order", prints(x, 1, 1, 0, 0), 8);
        Check.due("b", prints(x, 0, 15), 2);
        Check.due("b went", prints(x, 2, 14), 2);
        Check.due("c", prints(x, 0, 25, 9, 25, 200, 25), 4);
        Check.due("nobody", prints(x, 0, 0, 0, 1), 0);
        Check.due("nobody", prints(x, 0, 255), 0);
        Check.due("ten", prints(x, 0, 0, 0, 0, 0, 0, 0, 0, 0, 0, 0, 0, 0, 0, 0, 0, 0, 0, 0, 0), 9);
        Check.due("the tape is empty then", x.count(5), 0);
        Check.due("nothing has gone", x.now(0), 0);
        Check.due("none", prints(new BetweenThem(), 0, 0), 0);
    }

    private static void printsByLiving() {
        BetweenThem x = Check.on(BEACH);
        x.seconds(7);
        BetweenThem y = Check.on(BEACH);
        y.seconds(7);
        for (int t = 0; t <= 60; t++) {
            for (int w = 0; w < 4; w++) {
                int bit = prints(x, t, y.walker(w, 0) / 4) >> w & 1;
                Check.due("walker " + w + " behind " + t, bit, 1);
            }
            x = Check.on(BEACH);
            x.seconds(7);
            y.seconds(1);
        }
    }

    private static void printsLate() {
        BetweenThem x = Check.on("line 900;walker a 0 1;walker b 8 0;");
        for (int i = 0; i < 9; i++) {
            x.seconds(60);
        }
        Check.due("at 600", prints(x, 60, 150), 1);
        Check.due("at 600", prints(x, 60, 2), 2);
        Check.due("above 600", prints(x, 61, 2), 0);
        Check.due("above 600", prints(x, 255, 2), 0);
        Check.due("one of them above 600", prints(x, 0, 2, 61, 2), 0);
    }

    private static void wrongPrints() {
        BetweenThem x = Check.on(BEACH);
        Check.due("empty", x.prints(), -1);
        Check.due("odd", prints(x, 0, 0, 0), -1);
        Check.due("eleven", prints(x, new int[22]), -1);
        Check.due("21 bytes", prints(x, new int[21]), -1);
        Check.due("the tape is empty then", x.count(5), 0);
    }

    private static void judging() {
        BetweenThem x = Check.on("walker a 0 0;walker b 9 0;walker c 18 0;dog d a 3 1 other;dog f b 9 0 near;");
        Check.due("1 2 0 1", judge(x, 0, 1, 2, 0, 1), -1);
        Check.due("1 2 1", judge(x, 0, 1, 2, 1), 2);
        Check.due("2", judge(x, 0, 2), 0);
        Check.due("1 0 0", judge(x, 0, 1, 0, 0), 1);
        Check.due("f: 0 1 0", judge(x, 1, 0, 1, 0), -1);
        int[] forty = new int[40];
        for (int i = 0; i < 40; i++) {
            forty[i] = i % 2;
        }
        Check.due("f: forty", judge(x, 1, forty), -1);
        x.seconds(4);
        Check.due("from now on", judge(x, 0, 2, 0), -1);
        Check.due("the tape is empty then", x.count(5), 0);
        Check.due("nothing has gone", x.now(0), 4);
        x.throwStick(0);
        Check.due("the stick", judge(x, 0, 0, 1, 2), -1);
    }

    private static void judgingLate() {
        BetweenThem x = Check.on("line 900;walker a 0 0;walker b 300 0;dog d a 1 0 other;");
        Check.due("in 300 seconds", judge(x, 0, 1), -1);
        Check.due("no second one in 300", judge(x, 0, 1, 0), 1);
        BetweenThem y = Check.on("line 900;walker a 0 0;walker b 301 0;dog d a 1 0 other;");
        Check.due("not in 300", judge(y, 0, 1), 0);
        y.seconds(1);
        Check.due("in 300 from now on", judge(y, 0, 1), -1);
        BetweenThem z = Check.on("line 900;walker a 0 0;walker b 10 0;dog d a 1 0 other;");
        for (int i = 0; i < 10; i++) {
            z.seconds(59);
        }
        Check.due("ten are left", judge(z, 0, 0, 1), 1);
        Check.due("alone", judge(Check.on("walker a 0 0;dog d a 1 0 other;"), 0, 0), 0);
    }

    private static void wrongJudging() {
        BetweenThem x = Check.on("walker a 0 0;walker b 9 0;dog d a 3 1 other;");
        Check.due("empty", x.judge(0), -2);
        Check.due("no walker", judge(x, 0, 1, 2), -2);
        Check.due("no walker", judge(x, 0, 255), -2);
        Check.due("41", judge(x, 0, new int[41]), -2);
        Check.due("no dog", judge(x, 1, 1), -2);
        Check.due("no dog", judge(x, -1, 1), -2);
        Check.due("the tape is empty then", x.count(5), 0);
    }
}
