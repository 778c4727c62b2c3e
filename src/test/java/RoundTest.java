/** Promises 26, 27, 33: the round in which it ends, and the laws of a row of turns. */
public final class RoundTest {
    public static void main(String[] args) {
        rounds();
        byPlaces();
        laws();
        lawsByDogs();
        wrongLaws();
        Check.finish();
    }

    private static void round(String what, BetweenThem x, int d, int turns, int bits) {
        Check.due("round " + what, x.round(d), turns);
        Check.due("circle " + what, x.circle(d), bits);
    }

    private static void rounds() {
        String four = "walker a 0 1;walker b 30 1;walker c 50 1;walker e 60 1;";
        round("other", Check.on(four + "dog d b 3 0 other;"), 0, 4, 15);
        round("last", Check.on(four + "dog d b 3 0 last;"), 0, 4, 15);
        round("near", Check.on(four + "dog d a 3 0 near;"), 0, 2, 12);
        BetweenThem called = Check.on(four + "dog d a 3 0 call;");
        called.call(3);
        called.throwStick(2);
        round("call, as if nobody had", called, 0, 4, 15);
        BetweenThem later = Check.on(four + "dog d b 9 1 last;dog f b 9 1 near;");
        later.seconds(33);
        round("last, later", later, 0, 4, 15);
        round("alone", Check.on("walker a 0 0;dog d a 3 0 other;"), 0, -1, -1);
        round("no dog", Check.on(four), 0, -1, -1);
        round("no such", later, 2, -1, -1);
        round("no such", later, -1, -1, -1);
        round("empty", new BetweenThem(), 0, -1, -1);
        Check.due("nothing changed", later.now(0), 33);
    }

    private static void byPlaces() {
        // the nearest by the places now, wherever the dog is on its way
        BetweenThem x = Check.on("line 100;walker a 0 0;walker b 20 0;walker c 50 9;walker e 70 0;dog d a 2 0 near;");
        round("at first", x, 0, 2, 3);
        BetweenThem y = Check.on("line 100;walker a 0 0;walker b 45 0;walker c 50 0;walker e 70 0;dog d e 2 0 near;");
        round("to c, then b", y, 0, 2, 6);
        y.seconds(3);
        Check.due("it is on its way", y.dog(0, 0), 64);
        round("on its way", y, 0, 2, 6);
        BetweenThem like = Check.on("walker a 20 0;walker b 10 0;walker c 30 0;dog d c 2 0 near;");
        round("like ones: the first", like, 0, 2, 3);
        BetweenThem same = Check.on("walker a 9 0;walker b 9 0;walker c 9 0;dog d c 2 0 near;");
        round("all at one place", same, 0, 2, 3);
    }

    private static int laws(BetweenThem x, int... tape) {
        Check.bytes(x, tape);
        return x.laws();
    }

    private static void laws() {
        BetweenThem x = Check.on("walker a 0 1;walker b 60 1;walker c 100 1;");
        Check.due("0 1", laws(x, 0, 1), 7);
        Check.due("0 1 2 0", laws(x, 0, 1, 2, 0), 5);
        Check.due("2 1 2", laws(x, 2, 1, 2), 2);
        Check.due("2 0 1 2 0 1", laws(x, 2, 0, 1, 2, 0, 1), 5);
        Check.due("1 0", laws(x, 1, 0), 4);
        Check.due("1 0 2 1 0 2", laws(x, 1, 0, 2, 1, 0, 2), 4);
        Check.due("1 2", laws(x, 1, 2), 3);
        Check.due("0 2", laws(x, 0, 2), 0);
        Check.due("0 1 0", laws(x, 0, 1, 0), 0);
        Check.due("the tape is empty then", x.count(5), 0);
        Check.due("40", laws(x, row(40, 3)), 5);
        x.call(2);
        x.throwStick(2);
        Check.due("as if nobody called, had the stick", laws(x, 0, 1), 7);
        x.seconds(41);
        // b is at 101 then, c at 141
        Check.due("by the places now", laws(x, 2, 1, 2), 2);
        x.turn(1);
        x.seconds(30);
        Check.due("a at 71, b at 71, c at 171", laws(x, 2, 0, 1, 0), 2);
        BetweenThem two = Check.on("walker a 0 1;walker b 60 1;");
        Check.due("two", laws(two, 1, 0, 1, 0), 7);
    }

    private static int[] row(int n, int walkers) {
        int[] row = new int[n];
        for (int i = 0; i < n; i++) {
            row[i] = i % walkers;
        }
        return row;
    }

    /** What a dog does on a beach where nobody moves is by its law. */
    private static void lawsByDogs() {
        String[] names = {"other", "near", "last"};
        int[] bits = {1, 2, 4};
        for (int law = 0; law < 3; law++) {
            BetweenThem x = Check.on("walker a 9 0;walker b 3 0;walker c 17 0;walker e 12 0;walker f 20 0;"
                    + "dog d e 30 0 " + names[law] + ";");
            x.seconds(18);
            int[] tape = new int[19];
            tape[0] = 3;
            for (int k = 0; k < 18; k++) {
                tape[18 - k] = x.turned(0, k);
            }
            Check.due("the law " + names[law], laws(x, tape) & bits[law], bits[law]);
        }
    }

    private static void wrongLaws() {
        BetweenThem x = Check.on("walker a 0 1;walker b 60 1;walker c 100 1;");
        Check.due("empty", x.laws(), -1);
        Check.due("one", laws(x, 1), -1);
        Check.due("alike", laws(x, 0, 1, 1), -1);
        Check.due("alike", laws(x, 1, 1), -1);
        Check.due("alike", laws(x, 1, 1, 2), -1);
        Check.due("no walker", laws(x, 0, 3), -1);
        Check.due("no walker", laws(x, 200, 0), -1);
        Check.due("41", laws(x, row(41, 3)), -1);
        Check.due("the tape is empty then", x.count(5), 0);
        Check.due("none", laws(new BetweenThem(), 0, 1), -1);
    }
}
