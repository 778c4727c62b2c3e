/** Promises 6, 7, 8, 14: walkers, dogs, seconds; and how a dog chooses (20). */
public final class SecondsTest {
    public static void main(String[] args) {
        toAndFro();
        edges();
        wrongOnes();
        tiring();
        hangingBack();
        choosing();
        lawLast();
        lawCall();
        stick();
        allOver();
        Check.finish();
    }

    private static void walkers(BetweenThem x, String when, int w, int... want) {
        for (int i = 0; i < want.length; i++) {
            Check.due(when + ": walker " + w + " " + i, x.walker(w, i), want[i]);
        }
    }

    private static void dogs(BetweenThem x, String when, int d, int... want) {
        for (int i = 0; i < want.length; i++) {
            Check.due(when + ": dog " + d + " " + i, x.dog(d, i), want[i]);
        }
    }

    private static void toAndFro() {
        BetweenThem x = Check.on("line 20;walker a 0 3;walker b 20 0;dog d a 5 2 other;");
        walkers(x, "0", 0, 0, 3, 0, 1, 0, 0, 0);
        walkers(x, "0", 1, 20, 0, 0, 1, 0, 0, 0);
        dogs(x, "0", 0, 0, 5, 0, 0, -1, 0, 0);
        Check.due("3 seconds", x.seconds(3), 3);
        walkers(x, "3", 0, 9, 3, 0, 1, 0, 0, 9);
        dogs(x, "3", 0, 15, 5, 15, 0, 1, 0, 0);
        x.seconds(1);
        dogs(x, "4", 0, 20, 5, 20, 1, -1, 2, 1);
        walkers(x, "4", 1, 20, 0, 0, 1, 0, 1, 0);
        x.seconds(1);
        dogs(x, "5", 0, 20, 5, 20, 1, -1, 1, 1);
        x.seconds(1);
        dogs(x, "6", 0, 20, 5, 20, 1, -1, 0, 1);
        walkers(x, "6", 0, 18, 3, 0, 1, 0, 0, 18);
        x.seconds(1);
        walkers(x, "7: he stays at N", 0, 20, 3, 0, 1, 0, 1, 20);
        dogs(x, "7", 0, 20, 5, 20, 2, -1, 2, 0);
        Check.due("turns", x.now(5), 2);
        x.seconds(1);
        walkers(x, "8", 0, 20, 3, 0, 1, 0, 1, 20);
    }

    private static void edges() {
        BetweenThem x = Check.on("line 10;walker a 5 4 back;walker b 10 9;walker c 0 9 back;");
        x.seconds(2);
        walkers(x, "2", 0, 0, 4, 1, 1, 0, 0, 5);
        walkers(x, "2", 1, 10, 9, 0, 1, 0, 0, 0);
        walkers(x, "2", 2, 0, 9, 1, 1, 0, 0, 0);
        BetweenThem alone = Check.on("walker a 5 1;dog d a 3 1 other;dog e a 3 1 near;");
        alone.seconds(9);
        dogs(alone, "nobody to choose", 0, 5, 3, 0, 0, -1, 0, 0);
        dogs(alone, "nobody to choose", 1, 5, 3, 0, 0, -1, 0, 0);
        BetweenThem same = Check.on("walker a 5 0;walker b 5 0;dog d a 3 0 other;");
        same.seconds(7);
        dogs(same, "a turn each second", 0, 5, 3, 0, 7, -1, 0, 1);
    }

    private static void wrongOnes() {
        BetweenThem x = Check.on("walker a 0 1;walker b 9 1;dog d a 3 1 other;");
        int[] wrong = {-1, 2, 7, Integer.MAX_VALUE, Integer.MIN_VALUE};
        for (int w : wrong) {
            Check.dueThrows("walker " + w, () -> x.walker(w, 0));
        }
        for (int d : new int[] {-1, 1, 2, Integer.MIN_VALUE}) {
            Check.dueThrows("dog " + d, () -> x.dog(d, 0));
        }
        for (int what : new int[] {-1, 7, Integer.MAX_VALUE, Integer.MIN_VALUE}) {
            Check.dueThrows("walker what " + what, () -> x.walker(0, what));
            Check.dueThrows("dog what " + what, () -> x.dog(0, what));
        }
        Check.due("now 6", x.now(6), -1);
        Check.due("now -1", x.now(-1), -1);
        Check.due("seconds 0", x.seconds(0), -1);
        Check.due("seconds 61", x.seconds(61), -1);
        Check.due("seconds -5", x.seconds(-5), -1);
        Check.due("none went", x.now(0), 0);
        Check.due("nothing to undo", x.undo(), -1);
    }

    private static void tiring() {
        BetweenThem x = Check.on("walker a 0 0;walker b 0 0;dog d a 3 0 other;tires d 2;dog e a 2 0 other;");
        int[] paces = {3, 2, 2, 1, 1, 1, 1, 1};
        for (int i = 0; i < paces.length; i++) {
            x.seconds(1);
            Check.due("pace behind " + (i + 1) + " turns", x.dog(0, 1), paces[i]);
            Check.due("turns", x.dog(0, 3), i + 1);
        }
        Check.due("it does not tire", x.dog(1, 1), 2);
    }

    private static void hangingBack() {
        BetweenThem x = Check.on("keeps 3;walker a 0 1;walker b 6 0;walker c 100 1;dog d a 2 0 other;");
        Check.due("strays", x.strays(), 2);
        x.seconds(2);
        Check.due("2: nobody", x.now(3), 0);
        x.seconds(1);
        // the dog is at 6 with b in second 2
        Check.due("3: b was seen", x.walker(1, 5), 1);
        Check.due("3: a and c", x.now(3), 5);
        x.seconds(1);
        Check.due("a stays where he hangs back", x.walker(0, 0), 3);
        Check.due("he walks all the same", x.walker(0, 3), 1);
        Check.due("walking bits", x.now(4), 7);
        x.seconds(1);
        Check.due("5: b is not yet unseen for three", x.now(3), 5);
        x.seconds(1);
        Check.due("6: b hangs back too", x.now(3), 7);
        BetweenThem y = Check.on("keeps 1;walker a 0 1;walker b 0 1;dog d a 9 0 other;");
        y.seconds(1);
        Check.due("keeps 1: a", y.now(3), 1);
        y.seconds(1);
        Check.due("keeps 1: b, a went not", y.now(3), 2);
        Check.due("a is where he was", y.walker(0, 0), 1);
        Check.due("b went on in it", y.walker(1, 0), 2);
        BetweenThem none = Check.on("walker a 0 1;walker b 200 1;");
        none.seconds(60);
        none.seconds(60);
        Check.due("nobody without keeps", none.now(3), 0);
        Check.due("no strays without keeps", none.strays(), -1);
    }

    private static void choosing() {
        BetweenThem x = Check.on("walker a 50 0;walker b 40 0;walker c 60 0;walker d 51 0;"
                + "dog rex a 9 0 near;dog pip d 9 0 other;");
        Check.due("near", x.next(0), 3);
        Check.due("other behind the last", x.next(1), 0);
        Check.due("no such dog", x.next(2), -1);
        Check.due("no such dog", x.next(-1), -1);
        BetweenThem like = Check.on("walker a 50 0;walker b 40 0;walker c 60 0;dog rex a 9 0 near;");
        Check.due("like near ones: the first", like.next(0), 1);
        BetweenThem alone = Check.on("walker a 50 0;dog rex a 9 0 near;");
        Check.due("nobody", alone.next(0), -1);
        BetweenThem way = Check.on("line 100;walker a 0 0;walker b 50 0;walker c 90 0;dog rex b 10 0 near;");
        way.seconds(1);
        Check.due("it goes to c", way.dog(0, 4), 2);
        way.throwStick(0);
        Check.due("it would choose a now", way.next(0), 0);
        way.seconds(1);
        Check.due("it still goes to c", way.dog(0, 4), 2);
    }

    private static void lawLast() {
        BetweenThem x = Check.on("walker a 0 0;walker b 0 0;walker c 0 0;walker d 0 0;dog rex c 9 0 last;");
        int[] seen = {0, 1, 3, 2, 0, 1, 3, 2};
        for (int i = 0; i < seen.length; i++) {
            Check.due("last: next " + i, x.next(0), seen[i]);
            x.seconds(1);
            Check.due("last: seen " + i, x.turned(0, 0), seen[i]);
        }
        x.throwStick(0);
        x.seconds(1);
        Check.due("the stick", x.turned(0, 0), 0);
        Check.due("then 1: c is the latest but one", x.next(0), 1);
    }

    private static void lawCall() {
        BetweenThem x = Check.on("walker a 0 0;walker b 0 0;walker c 0 0;dog rex a 9 0 call;");
        Check.due("nobody called: as other", x.next(0), 1);
        x.call(2);
        Check.due("called", x.now(2), 2);
        Check.due("who called last", x.next(0), 2);
        x.seconds(1);
        Check.due("it is him: as other", x.next(0), 0);
        x.seconds(1);
        Check.due("again him", x.next(0), 2);
        x.call(1);
        Check.due("called last", x.next(0), 1);
        BetweenThem y = Check.on("walker a 0 0;walker b 0 0;walker c 0 0;dog rex a 9 0 other;");
        y.call(2);
        Check.due("another law hears no call", y.next(0), 1);
    }

    private static void stick() {
        BetweenThem x = Check.on("walker a 0 0;walker b 10 0;walker c 20 0;dog rex a 10 0 other;dog pip b 5 0 near;");
        x.throwStick(2);
        Check.due("stick", x.now(1), 2);
        Check.due("rex", x.next(0), 2);
        Check.due("pip", x.next(1), 2);
        x.seconds(1);
        Check.due("still the stick", x.now(1), 2);
        x.seconds(1);
        Check.due("rex was there: nobody has it", x.now(1), -1);
        Check.due("pip was there too", x.dog(1, 6), 2);
        x.throwStick(2);
        Check.due("where it was last he is not chosen", x.next(0), 0);
        Check.due("nor by pip: near", x.next(1), 1);
        x.throwStick(0);
        x.seconds(1);
        Check.due("both to a", x.dog(1, 4), 0);
    }

    private static void allOver() {
        BetweenThem x = Check.on("line 900;walker a 0 1;walker b 900 0;dog rex a 1 0 other;");
        for (int i = 0; i < 9; i++) {
            Check.due("60 more", x.seconds(60), 60);
        }
        x.seconds(55);
        Check.due("595", x.now(0), 595);
        Check.due("run to 600 alone", x.run(0, 60), 5);
        Check.due("the last five", x.seconds(60), 5);
        Check.due("600", x.now(0), 600);
        Check.due("none is left", x.seconds(1), 0);
        Check.due("no draws either", x.drawn(5, 1), 0);
        Check.due("place", x.walker(0, 0), 600);
        Check.due("acts can be", x.stop(0), 0);
        Check.due("run none", x.run(0, 5), 0);
        Check.due("turns none", x.turns(0, 5), 0);
        Check.due("strays none", x.strays(), -1);
        Check.due("undo the stop", x.undo(), 7);
        Check.due("undo the five", x.undo(), 6);
        Check.due("595 again", x.now(0), 595);
    }
}
