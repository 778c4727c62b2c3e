/** Promises 9 to 13, 15, 36, 42, 43: acts, undone; draws; images. */
public final class ActsTest {
    public static void main(String[] args) {
        acts();
        wrongOnes();
        undoing();
        undoingLogs();
        undoingTurns();
        draws();
        wrongDraws();
        images();
        Check.finish();
    }

    private static BetweenThem beach() {
        return Check.on("line 100;walker a 10 2;walker b 50 3 back;walker c 90 0;dog rex a 7 1 other;");
    }

    private static void acts() {
        BetweenThem x = beach();
        Check.due("walk: he walks", x.walk(0), 1);
        Check.due("stop", x.stop(0), 0);
        Check.due("stop again", x.stop(0), 1);
        Check.due("walking bits", x.now(4), 6);
        Check.due("walks", x.walker(0, 3), 0);
        x.seconds(2);
        Check.due("he stood", x.walker(0, 0), 10);
        Check.due("walk", x.walk(0), 0);
        Check.due("turn", x.turn(0), 0);
        Check.due("back", x.walker(0, 2), 1);
        x.seconds(2);
        Check.due("he went back", x.walker(0, 0), 6);
        Check.due("turn again", x.turn(0), 0);
        Check.due("forth", x.walker(0, 2), 0);
        Check.due("call", x.call(1), 0);
        Check.due("call again", x.call(1), 0);
        Check.due("caller", x.now(2), 1);
        Check.due("another calls", x.call(2), 0);
        Check.due("caller", x.now(2), 2);
        Check.due("throw", x.throwStick(1), 0);
        Check.due("has it", x.throwStick(1), 1);
        Check.due("another", x.throwStick(2), 0);
        Check.due("nobody else", x.now(1), 2);
    }

    private static void wrongOnes() {
        BetweenThem x = beach();
        for (int w : new int[] {-1, 3, 6, Integer.MAX_VALUE, Integer.MIN_VALUE}) {
            Check.due("stop", x.stop(w), -1);
            Check.due("walk", x.walk(w), -1);
            Check.due("turn", x.turn(w), -1);
            Check.due("call", x.call(w), -1);
            Check.due("throw", x.throwStick(w), -1);
        }
        Check.due("nothing was done", x.undo(), -1);
    }

    private static void undoing() {
        BetweenThem x = beach();
        x.stop(0);
        x.stop(0);
        x.turn(1);
        x.call(2);
        x.throwStick(2);
        x.seconds(20);
        Check.due("undo seconds", x.undo(), 4);
        Check.due("second", x.now(0), 0);
        Check.due("place", x.walker(1, 0), 50);
        Check.due("ran", x.dog(0, 2), 0);
        Check.due("turned", x.turned(0, 0), -1);
        Check.due("stick", x.now(1), 2);
        Check.due("undo throw", x.undo(), 3);
        Check.due("stick", x.now(1), -1);
        Check.due("undo call", x.undo(), 2);
        Check.due("caller", x.now(2), -1);
        Check.due("undo turn", x.undo(), 1);
        Check.due("back", x.walker(1, 2), 1);
        Check.due("undo stop", x.undo(), 0);
        Check.due("walks", x.walker(0, 3), 1);
        Check.due("none", x.undo(), -1);
        for (int i = 0; i < 11; i++) {
            x.seconds(1);
        }
        for (int i = 7; i >= 0; i--) {
            Check.due("eight are kept", x.undo(), i);
            Check.due("second", x.now(0), 3 + i);
        }
        Check.due("no ninth", x.undo(), -1);
        x.seconds(2);
        Check.due("sentence", Check.sentence(x, "place > 0"), 1);
        Check.due("undo", x.undo(), 0);
        Check.due("the sentence stays", x.told(-1), 3);
    }

    private static void undoingLogs() {
        BetweenThem x = beach();
        Check.due("log", Check.log(x, 1, "a stops;second 5;b turns;"), -1);
        Check.due("5", x.now(0), 5);
        Check.due("judged alone", Check.log(x, 0, "second 5;"), -1);
        Check.due("a wrong beginning, lived", Check.log(x, 1, "a stops;second 5;"), 0);
        Check.due("a fault is not lived", Check.log(x, 1, "a stop;"), -4);
        Check.due("undo it", x.undo(), 1);
        Check.due("undo the whole log", x.undo(), 0);
        Check.due("0", x.now(0), 0);
        Check.due("walks", x.walker(0, 3), 1);
        Check.due("back", x.walker(1, 2), 1);
        Check.due("none", x.undo(), -1);
        Check.due("what was logged stays", x.logged(2), 5);
    }

    /** The latest turns and who moved come back too. */
    private static void undoingTurns() {
        String text = "line 50;walker a 0 3;walker b 5 1;walker c 40 7 back;dog rex a 20 0 other;dog pip b 30 0 last;";
        BetweenThem x = Check.on(text);
        BetweenThem y = Check.on(text);
        x.seconds(5);
        y.seconds(5);
        Check.sentence(x, "stands");
        Check.sentence(y, "stands");
        x.image(1);
        x.seconds(60);
        Check.due("all stand at an edge", x.told(-1), 3);
        Check.due("undo", x.undo(), 1);
        Agree.alike("undone", x, y);
        Check.due("who stood", x.told(-1), y.told(-1));
        x.drawn(60, 3);
        Check.due("restore", x.restore(1), true);
        Agree.alike("restored", x, y);
        Check.due("who stood", x.told(-1), y.told(-1));
    }

    /** The draws by hand, from the words of the document. */
    private static void draws() {
        for (int seed : new int[] {0, 1, 7, -5, 123456789, Integer.MIN_VALUE}) {
            BetweenThem x = beach();
            BetweenThem y = beach();
            Check.due("drawn", x.drawn(60, seed), 60);
            int s = seed;
            for (int i = 0; i < 60; i++) {
                for (int w = 0; w < 3; w++) {
                    s = s * 1103515245 + 12345;
                    int draw = (s >>> 8) % 12;
                    if (draw == 0 && y.stop(w) == 1) {
                        y.walk(w);
                    } else if (draw == 1) {
                        y.turn(w);
                    } else if (draw == 2) {
                        y.call(w);
                    } else if (draw == 3) {
                        y.throwStick(w);
                    }
                }
                y.seconds(1);
            }
            Agree.alike("drawn by " + seed, x, y);
            Check.due("undo all of it", x.undo(), 0);
            Agree.alike("undone", x, beach());
        }
    }

    private static void wrongDraws() {
        BetweenThem x = beach();
        Check.due("0", x.drawn(0, 1), -1);
        Check.due("61", x.drawn(61, 1), -1);
        Check.due("-1", x.drawn(-1, 1), -1);
        Check.due("1", x.drawn(1, 1), 1);
        BetweenThem none = new BetweenThem();
        Check.due("no walkers", none.drawn(5, 1), -1);
        Check.due("no second", none.now(0), 0);
    }

    private static void images() {
        BetweenThem x = beach();
        Check.due("no such", x.image(-1), false);
        Check.due("no such", x.image(2), false);
        Check.due("nothing kept", x.restore(0), false);
        Check.due("sentence", Check.sentence(x, "pace = 0 or pace = 3"), 2);
        x.seconds(4);
        Check.due("image", x.image(0), true);
        Check.due("nothing kept in 1", x.restore(1), false);
        x.seconds(9);
        x.throwStick(1);
        Check.due("new beach", Check.beach(x, "line 9;walker z 3 3;"), 2);
        Check.due("image 1", x.image(1), true);
        x.seconds(1);
        Check.due("a fault", Check.sentence(x, "stands and a"), -12);
        x.feed(0, 0, 0, 0, 0);
        Check.due("restore", x.restore(0), true);
        Check.due("walkers", x.count(0), 3);
        Check.due("line", x.count(2), 100);
        Check.due("second", x.now(0), 4);
        Check.due("stick", x.now(1), -1);
        Check.due("place", x.walker(0, 0), 18);
        Check.due("dog", x.dog(0, 2), 28);
        Check.due("sentence", x.told(-1), 2);
        Check.due("the tape stays", x.count(5), 20);
        Check.due("the fault stays", x.fault(), 1);
        Check.due("nothing can be undone", x.undo(), -1);
        x.end(0);
        Check.due("names again", Check.log(x, 0, "b stops;"), -1);
        Check.due("restore 1", x.restore(1), true);
        Check.due("walkers", x.count(0), 1);
        Check.due("place", x.walker(0, 0), 3);
        Check.due("no sentence", x.told(-1), -1);
        Check.due("what was logged stays", x.logged(1), 1);
        Check.due("again the first", x.restore(0), true);
        Check.due("as it was", x.now(0), 4);
        Check.due("no such", x.restore(-1), false);
        Check.due("no such", x.restore(2), false);
    }
}
