/** Promises 5, 38, 39: a LOG judged or lived. */
public final class LogTest {
    private static final String BEACH = "line 100;walker ann 0 1;walker bob 60 2 back;dog rex ann 10 1 other;";

    public static void main(String[] args) {
        judged();
        lived();
        wrong();
        secondsLeft();
        faults();
        tooMany();
        tooLong();
        otherLives();
        Check.finish();
    }

    private static void logged(BetweenThem x, String when, int... want) {
        for (int i = 0; i < want.length; i++) {
            Check.due(when + ": logged " + i, x.logged(i), want[i]);
        }
    }

    private static void judged() {
        BetweenThem x = Check.on(BEACH);
        Check.due("judged", Check.log(x, 0, "ann stops;second 9;ann walks;bob turns;bob calls;bob throws;second 2;"), -1);
        // rex is with bob in second 4, with ann in second 10
        logged(x, "judged", 0, 7, 11, 2);
        Check.due("fault", x.fault(), 0);
        Check.due("all stays", x.now(0), 0);
        Check.due("all stays", x.now(5), 0);
        Check.due("all stays", x.now(2), -1);
        Check.due("all stays", x.walker(0, 3), 1);
        Check.due("nothing to undo", x.undo(), -1);
        Check.due("empty", x.log(0), -1);
        logged(x, "empty", 0, 0, 0, 0);
        Check.due("another what", x.logged(4), -1);
        Check.due("another what", x.logged(-1), -1);
    }

    private static void lived() {
        BetweenThem x = Check.on(BEACH);
        BetweenThem y = Check.on(BEACH);
        Check.due("lived", Check.log(x, 1, "second 9 ; ann turns;\nann calls;bob throws;second 60;bob stops;"), -1);
        y.seconds(9);
        y.turn(0);
        y.call(0);
        y.throwStick(1);
        y.seconds(60);
        y.stop(1);
        Agree.alike("lived", x, y);
        int turnsAhead = y.now(5);
        logged(x, "lived", 0, 6, 69, turnsAhead);
        Check.due("lived on", Check.log(x, 1, "second 30;"), -1);
        y.seconds(30);
        logged(x, "lived on", 0, 1, 99, y.now(5) - turnsAhead);
        Check.due("undo", x.undo(), 1);
        Check.due("69", x.now(0), 69);
    }

    private static void wrong() {
        BetweenThem x = Check.on(BEACH);
        Check.due("walks", Check.log(x, 1, "second 3;ann walks;second 9;"), 1);
        logged(x, "walks", 11, 1, 3, 0);
        Check.due("as far as that", x.now(0), 3);
        Check.due("stops", Check.log(x, 1, "bob stops;second 2;bob turns;bob stops;"), 3);
        logged(x, "stops", 1, 3, 5, 0);
        Check.due("turned", x.walker(1, 2), 0);
        Check.due("throws", Check.log(x, 0, "ann throws;bob throws;ann throws;ann throws;"), 3);
        logged(x, "throws", 21, 3, 5, 0);
        Check.due("judged alone", x.now(1), -1);
        Check.due("at once", Check.log(x, 1, "bob stops;"), 0);
        logged(x, "at once", 1, 0, 5, 0);
        Check.due("no fault", x.fault(), 0);
    }

    private static void secondsLeft() {
        BetweenThem x = Check.on(BEACH);
        for (int i = 0; i < 9; i++) {
            x.seconds(60);
        }
        Check.due("all that are left", Check.log(x, 0, "second 60;"), -1);
        logged(x, "all", 0, 1, 600, x.turns(0, 60));
        Check.due("one more", Check.log(x, 1, "second 59;bob stops;second 2;bob walks;"), 2);
        Check.due("why", x.logged(0), 41);
        Check.due("good", x.logged(1), 2);
        Check.due("then", x.logged(2), 599);
        Check.due("599", x.now(0), 599);
        Check.due("bob", x.walker(1, 3), 0);
        Check.due("the last", Check.log(x, 1, "second 1;second 1;"), 1);
        Check.due("600", x.now(0), 600);
    }

    private static void bad(String text, int place, int kind) {
        BetweenThem x = Check.on(BEACH);
        Check.log(x, 1, "second 4;ann stops;");
        Check.due("place in " + text, Check.log(x, 1, text), -2 - place);
        Check.due("kind in " + text, x.fault(), kind);
        Check.due("tape", x.count(5), 0);
        Check.due("all stays", x.now(0), 4);
        logged(x, "as the latest without a fault", 0, 2, 4, 0);
        Check.due("not to undo", x.undo(), 0);
    }

    private static void faults() {
        bad(";", 0, 1);
        bad("ann", 3, 1);
        bad("ann stops", 9, 1);
        bad("ann stops ;; ", 11, 1);
        bad("ann stop;", 4, 1);
        bad("ann ann;", 4, 1);
        bad("ann second 5;", 4, 1);
        bad("ann 5;", 4, 1);
        bad("stops ann;", 0, 1);
        bad("walker;", 0, 1);
        bad("seconds 5;", 0, 3);
        bad("second ;", 7, 1);
        bad("second 5", 8, 1);
        bad("second five;", 7, 1);
        bad("second 0;", 7, 2);
        bad("second 61;", 7, 2);
        bad("second 600;", 7, 2);
        bad("second 6000;", 7, 1);
        bad("ann stops;cid stops;", 10, 3);
        bad("rex stops;", 0, 3);
        bad("rex;", 0, 3);
        bad("ann turns;Bob stops;", 10, 1);
        BetweenThem fresh = Check.on(BEACH);
        Check.due("ahead of any", fresh.logged(0), -1);
        Check.due("a fault", Check.log(fresh, 0, "x;"), -2);
        Check.due("still ahead of any", fresh.logged(0), -1);
    }

    private static void tooMany() {
        BetweenThem x = Check.on("walker a 0 1;dog d a 1 1 other;");
        Check.due("forty", Check.log(x, 0, "a turns;".repeat(40)), -1);
        Check.due("lines", x.logged(1), 40);
        String lines = "a turns;".repeat(40);
        Check.due("a 41st", Check.log(x, 0, lines + "a turns;"), -2 - 320);
        Check.due("kind", x.fault(), 4);
        Check.due("a 41st", Check.log(x, 0, lines + " second 1;"), -2 - 321);
        Check.due("kind", x.fault(), 4);
        Check.due("a 41st, not told", Check.log(x, 0, lines + "b turns;"), -2 - 320);
        Check.due("the least", x.fault(), 3);
        Check.due("a 41st, a dog", Check.log(x, 0, lines + "d turns;"), -2 - 320);
        Check.due("the least", x.fault(), 3);
        Check.due("a 41st that can't come", Check.log(x, 0, lines + ";"), -2 - 320);
        Check.due("the least", x.fault(), 1);
        Check.due("400 bytes", Check.log(Check.on(BEACH), 0, "ann turns;".repeat(40)), -1);
    }

    private static void tooLong() {
        BetweenThem x = Check.on("walker a 0 1;");
        Check.due("400", Check.log(x, 0, "a turns;" + Check.blanks(392)), -1);
        Check.due("401", Check.log(x, 0, "a turns;" + Check.blanks(393)), -402);
        Check.due("kind", x.fault(), 1);
        Check.due("a fault ahead", Check.log(x, 0, "a turn;" + Check.blanks(500)), -4);
        Check.due("read whole", Check.log(x, 0, Check.blanks(396) + "second 5;"), -402);
        Check.due("read whole", Check.log(x, 0, Check.blanks(396) + "secondly5;"), -398);
        Check.due("a number", Check.log(x, 0, Check.blanks(391) + " second 61;"), -401);
        Check.due("kind", x.fault(), 2);
    }

    private static void otherLives() {
        BetweenThem x = Check.on(BEACH);
        Check.due("a fault", Check.beach(x, "line 0;"), -6);
        Check.text(x, "second 5;");
        for (int lives : new int[] {-1, 2, Integer.MAX_VALUE}) {
            Check.due("lives " + lives, x.log(lives), -1000);
        }
        Check.due("the tape stays", x.count(5), 9);
        Check.due("the fault stays", x.fault(), 2);
        Check.due("logged stays", x.logged(0), -1);
        Check.due("then lived", x.log(1), -1);
        Check.due("5", x.now(0), 5);
    }
}
