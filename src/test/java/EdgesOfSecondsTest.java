/** Each sentence of part 2 that names an edge (a SECOND, how a DOG CHOOSES, the acts), and promises 6 to 15, 20. */
public final class EdgesOfSecondsTest {
    public static void main(String[] args) {
        sixHundred();
        allWalkAtFirst();
        dogByDog();
        stayingAtEdges();
        hangingDoNotGo();
        turning();
        nobodyToChoose();
        justThere();
        turnOf();
        stickGone();
        tiring();
        tiringAtLeastOne();
        keptSeconds();
        keptOne();
        keptByTwo();
        seenAgain();
        allButLast();
        stickFirst();
        other();
        near();
        nearAsTheyAre();
        last();
        lastAtFirst();
        call();
        stopping();
        walking();
        turningRound();
        calling();
        throwing();
        secondsTold();
        walkerTold();
        dogTold();
        nowTold();
        nextTold();
        undoTold();
        undoEight();
        undoNot();
        newBeach();
        Check.finish();
    }

    private static BetweenThem atSecond(String beach, int second) {
        BetweenThem x = Check.on(beach);
        Check.pass(x, second);
        return x;
    }

    // ---- a SECOND

    private static void sixHundred() {
        Check.about("A SECOND (0 to 599; 600: all are over)");
        String beach = "line 900;walker a 0 1;walker b 900 0;dog d a 30 0 other;";
        BetweenThem x = atSecond(beach, 599);
        Check.due("the last", x.now(0), 599);
        Check.due("goes", x.seconds(1), 1);
        Check.due("all are over", x.now(0), 600);
        Check.due("no more", x.seconds(1), 0);
        Check.due("no more", x.seconds(60), 0);
        Check.due("still", x.now(0), 600);
        Check.due("he went 600", x.walker(0, 0), 600);
        Check.due("no draws", x.drawn(60, 1), 0);
        Check.due("still", x.walker(0, 6), 600);
        Check.due("the first", new BetweenThem().now(0), 0);
    }

    private static void dogByDog() {
        Check.about("first each WALKER .. Then DOG by DOG");
        String men = "walker a 0 0;walker b 3 0;walker c 1 0;";
        BetweenThem x = Check.on(men + "dog d a 3 0 other;dog e a 3 0 near;");
        x.throwStick(1);
        x.seconds(1);
        Check.due("d took the stick", x.dog(0, 6), 1);
        Check.due("e chose behind it", x.dog(1, 6), 2);
        BetweenThem y = Check.on(men + "dog e a 3 0 near;dog d a 2 0 other;");
        y.throwStick(1);
        y.seconds(1);
        Check.due("e took the stick", y.dog(0, 6), 1);
        Check.due("d goes to b by its law", y.dog(1, 4), 1);
        BetweenThem z = Check.on("walker a 0 0;walker b 4 1 back;dog d a 3 0 other;");
        z.seconds(1);
        Check.due("he came nearer first", z.dog(0, 3), 1);
        Check.due("there", z.turnedAt(0, 0), 3);
        BetweenThem away = Check.on("walker a 0 0;walker b 3 1;dog d a 3 0 other;");
        away.seconds(1);
        Check.due("he went away first", away.dog(0, 3), 0);
    }

    private static void allWalkAtFirst() {
        Check.about("each WALKER who walks (at first all do)");
        BetweenThem x = Check.on("walker a 0 1;walker b 9 0;walker c 9 9 back;");
        Check.due("all", x.now(4), 7);
        x.seconds(1);
        Check.due("a", x.walker(0, 0), 1);
        Check.due("b has no pace", x.walker(1, 0), 9);
        Check.due("c", x.walker(2, 0), 0);
        x.stop(0);
        x.turn(2);
        x.seconds(1);
        Check.due("a stands", x.walker(0, 0), 1);
        Check.due("c", x.walker(2, 0), 9);
    }

    private static void stayingAtEdges() {
        Check.about("is as far as his PACE farther the way he goes (at 0, N he stays)");
        BetweenThem x = Check.on("line 20;walker a 15 5;walker b 16 5;walker c 14 5;"
                + "walker e 5 5 back;walker f 4 5 back;walker g 6 5 back;");
        x.seconds(1);
        int[] first = {20, 20, 19, 0, 0, 1};
        int[] went = {5, 4, 5, 5, 4, 5};
        for (int w = 0; w < 6; w++) {
            Check.due("place of " + w, x.walker(w, 0), first[w]);
            Check.due("went " + w, x.walker(w, 6), went[w]);
        }
        x.seconds(1);
        int[] wentThen = {5, 4, 6, 5, 4, 6};
        for (int w = 0; w < 6; w++) {
            Check.due("stays " + w, x.walker(w, 0), w < 3 ? 20 : 0);
            Check.due("went " + w, x.walker(w, 6), wentThen[w]);
            Check.due("walks " + w, x.walker(w, 3), 1);
        }
        x.turn(0);
        x.turn(3);
        x.seconds(1);
        Check.due("away from N", x.walker(0, 0), 15);
        Check.due("away from 0", x.walker(3, 0), 5);
        BetweenThem whole = atSecond("line 1;walker a 0 9;walker b 1 9 back;walker c 0 9 back;", 1);
        Check.due("the shortest line", whole.walker(0, 0), 1);
        Check.due("the shortest line", whole.walker(1, 0), 0);
        Check.due("the shortest line", whole.walker(2, 0), 0);
    }

    private static void hangingDoNotGo() {
        Check.about("each WALKER who walks and does not HANG back");
        BetweenThem x = atSecond("keeps 2;walker a 0 1;walker b 50 1;", 2);
        Check.due("both hang back", x.now(3), 3);
        Check.due("went so far", x.walker(0, 0), 2);
        x.seconds(5);
        Check.due("no farther", x.walker(0, 0), 2);
        Check.due("no farther", x.walker(0, 6), 2);
        Check.due("he hangs back", x.walker(0, 4), 1);
        Check.due("he walks", x.walker(0, 3), 1);
        Check.due("he can stop", x.stop(0), 0);
        Check.due("he hangs back all the same", x.walker(0, 4), 1);
    }

    private static void turning() {
        Check.about("one that still turns has a SECOND less of it");
        BetweenThem x = Check.on("walker a 0 0;walker b 5 0;dog d a 5 2 other;");
        int[] left = {2, 1, 0, 2, 1, 0, 2};
        int[] place = {5, 5, 5, 0, 0, 0, 5};
        for (int i = 0; i < left.length; i++) {
            x.seconds(1);
            Check.due("behind SECOND " + i, x.dog(0, 5), left[i]);
            Check.due("place behind SECOND " + i, x.dog(0, 0), place[i]);
            Check.due("goes to nobody yet", x.dog(0, 4), -1);
        }
        Check.due("turns", x.dog(0, 3), 3);
        Check.due("ran", x.dog(0, 2), 15);
    }

    private static void nobodyToChoose() {
        Check.about("if it goes to nobody yet, it chooses (nobody: it stays)");
        for (String law : new String[] {"other", "near", "last", "call"}) {
            BetweenThem x = Check.on("walker a 5 1;dog d a 9 3 " + law + ";");
            x.call(0);
            x.throwStick(0);
            x.seconds(4);
            Check.due(law + ": it stays", x.dog(0, 0), 5);
            Check.due(law + ": he went", x.walker(0, 0), 9);
            Check.due(law + ": to nobody", x.dog(0, 4), -1);
            Check.due(law + ": no turn", x.dog(0, 3), 0);
            Check.due(law + ": ran", x.dog(0, 2), 0);
            Check.due(law + ": next", x.next(0), -1);
            Check.due(law + ": he has the stick", x.now(1), 0);
        }
    }

    private static void justThere() {
        Check.about("it runs toward him by its pace: if he is no farther than that, it is where he is: a TURN");
        BetweenThem at = atSecond("walker a 10 0;walker b 16 0;dog d a 6 0 other;", 1);
        Check.due("just so far", at.dog(0, 0), 16);
        Check.due("a turn", at.dog(0, 3), 1);
        Check.due("ran", at.dog(0, 2), 6);
        BetweenThem less = atSecond("walker a 10 0;walker b 15 0;dog d a 6 0 other;", 1);
        Check.due("nearer", less.dog(0, 0), 15);
        Check.due("a turn", less.dog(0, 3), 1);
        Check.due("ran", less.dog(0, 2), 5);
        BetweenThem more = atSecond("walker a 10 0;walker b 17 0;dog d a 6 0 other;", 1);
        Check.due("farther", more.dog(0, 0), 16);
        Check.due("no turn", more.dog(0, 3), 0);
        Check.due("on its way", more.dog(0, 4), 1);
        more.seconds(1);
        Check.due("there", more.dog(0, 0), 17);
        Check.due("ran", more.dog(0, 2), 7);
        BetweenThem down = atSecond("walker a 10 0;walker b 4 0;dog d a 6 0 other;dog e a 5 0 other;", 1);
        Check.due("toward 0", down.dog(0, 0), 4);
        Check.due("toward 0, a turn", down.dog(0, 3), 1);
        Check.due("toward 0, farther", down.dog(1, 0), 5);
        Check.due("toward 0, no turn", down.dog(1, 3), 0);
        BetweenThem here = atSecond("walker a 10 0;walker b 10 0;dog d a 6 0 other;", 1);
        Check.due("no way at all: a turn", here.dog(0, 3), 1);
        Check.due("ran", here.dog(0, 2), 0);
    }

    private static void turnOf() {
        Check.about("a TURN: it has seen him, it turns TURN SECONDS long, goes to nobody yet");
        BetweenThem x = atSecond("walker a 0 0;walker b 3 0;dog d a 3 9 other;dog e a 1 0 other;", 1);
        Check.due("seen", x.walker(1, 5), 1);
        Check.due("turns", x.dog(0, 5), 9);
        Check.due("to nobody yet", x.dog(0, 4), -1);
        Check.due("where it was last", x.dog(0, 6), 1);
        Check.due("the other one goes", x.dog(1, 4), 1);
        Check.due("the other one was there last", x.dog(1, 6), 0);
        x.seconds(9);
        Check.due("nine more", x.dog(0, 5), 0);
        Check.due("still there", x.dog(0, 0), 3);
        x.seconds(1);
        Check.due("then it runs", x.dog(0, 0), 0);
    }

    private static void stickGone() {
        Check.about("a TURN: if he had the stick, nobody has it");
        BetweenThem x = Check.on("walker a 0 0;walker b 3 0;walker c 6 0;dog d a 3 0 other;");
        x.throwStick(0);
        x.seconds(1);
        Check.due("b had it not: a has it", x.now(1), 0);
        x.seconds(1);
        Check.due("the dog was with a", x.dog(0, 6), 0);
        Check.due("nobody has it", x.now(1), -1);
        Check.due("he can throw again", x.throwStick(0), 0);
        x.seconds(1);
        Check.due("with b", x.dog(0, 6), 1);
        Check.due("a has it still", x.now(1), 0);
        BetweenThem y = Check.on("walker a 0 0;walker b 3 0;dog d a 3 0 other;dog e b 3 0 other;");
        y.throwStick(1);
        y.seconds(1);
        Check.due("d took it", y.now(1), -1);
        y.throwStick(1);
        y.seconds(1);
        Check.due("e took it, d was there", y.now(1), -1);
    }

    private static void tiring() {
        Check.about("Behind each N TURNS ('tires') its pace is 1 less");
        for (int n : new int[] {1, 2, 19, 20}) {
            String beach = "walker a 0 0;walker b 0 0;dog d a 30 0 other;dog e b 30 0 other;tires d " + n + ";";
            BetweenThem x = atSecond(beach, n - 1);
            Check.due("not behind " + (n - 1), x.dog(0, 1), 30);
            x.seconds(1);
            Check.due("behind " + n, x.dog(0, 1), 29);
            Check.pass(x, n - 1);
            Check.due("not behind " + (2 * n - 1), x.dog(0, 1), 29);
            x.seconds(1);
            Check.due("behind " + 2 * n, x.dog(0, 1), 28);
            Check.due("the other one does not", x.dog(1, 1), 30);
        }
    }

    private static void tiringAtLeastOne() {
        Check.about("its pace is 1 less (1 at least)");
        BetweenThem x = Check.on("walker a 0 0;walker b 0 0;dog d a 3 0 other;tires d 1;dog e a 1 0 other;tires e 2;");
        int[] paces = {2, 1, 1, 1};
        for (int i = 0; i < paces.length; i++) {
            x.seconds(1);
            Check.due("behind " + (i + 1), x.dog(0, 1), paces[i]);
            Check.due("1 stays 1", x.dog(1, 1), 1);
        }
        Check.pass(x, 500);
        Check.due("behind 504", x.dog(0, 1), 1);
        Check.due("all its turns", x.dog(0, 3), 504);
    }

    private static void keptSeconds() {
        Check.about("seen by no DOG in this SECOND and in the KEEPS less 1 ahead of it (there must have been as many)");
        for (int keeps : new int[] {1, 2, 3, 50, 98, 99}) {
            String beach = "line 900;keeps " + keeps + ";walker a 0 0;walker b 9 0;";
            BetweenThem x = atSecond(beach, keeps - 1);
            Check.due("fewer than " + keeps, x.now(3), 0);
            x.seconds(1);
            Check.due("as many as " + keeps, x.now(3), 3);
        }
        BetweenThem x = Check.on("keeps 4;walker a 0 0;walker b 0 0;dog d a 5 9 other;");
        // b is seen in SECONDS 0 and 20, a in 10
        Check.pass(x, 3);
        Check.due("3: nobody", x.now(3), 0);
        x.seconds(1);
        Check.due("4: a, never seen; b was seen in 0", x.now(3), 1);
        x.seconds(1);
        Check.due("5: b was not seen in 1 to 4", x.now(3), 3);
        x.seconds(6);
        Check.due("11: a was seen in 10", x.now(3), 2);
        x.seconds(3);
        Check.due("14: a was not seen in 11 to 13", x.now(3), 2);
        x.seconds(1);
        Check.due("15: nor in 14", x.now(3), 3);
    }

    private static void keptOne() {
        Check.about("KEEPS 1: who has been seen by no DOG in this SECOND HANGS back");
        BetweenThem x = Check.on("keeps 1;walker a 0 0;walker b 0 0;dog d a 5 0 other;");
        for (int i = 0; i < 6; i++) {
            x.seconds(1);
            Check.due("behind SECOND " + i, x.now(3), i % 2 == 0 ? 1 : 2);
        }
    }

    private static void keptByTwo() {
        Check.about("seen by no DOG");
        BetweenThem x = Check.on("keeps 1;walker a 0 0;walker b 0 0;walker c 0 0;"
                + "dog d a 5 0 other;dog e b 5 0 other;");
        x.seconds(1);
        Check.due("b by d, c by e", x.now(3), 1);
        x.seconds(1);
        Check.due("c by d, a by e", x.now(3), 2);
        x.seconds(1);
        Check.due("a by d, b by e", x.now(3), 4);
    }

    private static void seenAgain() {
        Check.about("who was seen in this SECOND does not");
        BetweenThem x = Check.on("keeps 3;walker a 0 0;walker b 8 1;dog d a 2 0 other;");
        // b goes 9, 10, 11 and hangs back at 11; the dog is at 2, 4, 6, 8, 10, 11
        x.seconds(3);
        Check.due("both", x.now(3), 3);
        x.seconds(2);
        Check.due("both still", x.now(3), 3);
        Check.due("b stands", x.walker(1, 0), 11);
        x.seconds(1);
        Check.due("b was seen", x.now(3), 1);
        Check.due("b", x.walker(1, 4), 0);
        Check.due("a", x.walker(0, 4), 1);
        x.seconds(1);
        Check.due("he goes on", x.walker(1, 0), 12);
    }

    // ---- how it CHOOSES

    private static void allButLast() {
        Check.about("It CHOOSES among all but him where it was last (at first him where it is)");
        for (String law : new String[] {"other", "near", "last", "call"}) {
            for (int start = 0; start < 3; start++) {
                BetweenThem x = Check.on("walker a 5 0;walker b 5 0;walker c 5 0;dog d "
                        + (char) ('a' + start) + " 1 0 " + law + ";");
                x.call(start);
                x.throwStick(start);
                Check.due(law + " from " + start, x.next(0) == start, false);
                for (int i = 0; i < 9; i++) {
                    int was = x.dog(0, 6);
                    x.call(was);
                    x.throwStick(was);
                    Check.due(law + " not to him", x.next(0) == was, false);
                    x.seconds(1);
                    Check.due(law + " not to him", x.dog(0, 6) == was, false);
                }
            }
        }
    }

    private static void stickFirst() {
        Check.about("him who has the stick; else by its LAW");
        for (String law : new String[] {"other", "near", "last", "call"}) {
            BetweenThem x = Check.on("walker a 0 0;walker b 1 0;walker c 50 0;walker e 90 0;dog d a 1 0 " + law + ";");
            Check.due(law, x.next(0), 1);
            x.call(2);
            x.throwStick(3);
            Check.due(law + ": the stick", x.next(0), 3);
            x.throwStick(0);
            Check.due(law + ": he where it is has it", x.next(0), law.equals("call") ? 2 : 1);
        }
    }

    private static void other() {
        Check.about("other: the next number (behind the last 0)");
        for (int men = 2; men <= 6; men++) {
            StringBuilder s = new StringBuilder();
            for (int w = 0; w < men; w++) {
                s.append("walker ").append((char) ('a' + w)).append(" 7 0;");
            }
            for (int start = 0; start < men; start++) {
                BetweenThem x = Check.on(s + "dog x " + (char) ('a' + start) + " 1 0 other;");
                Check.due("of " + men + " from " + start, x.next(0), start == men - 1 ? 0 : start + 1);
            }
        }
    }

    private static void near() {
        Check.about("near: the one nearest to the DOG, of like ones the first");
        String[] beaches = {"walker a 50 0;walker b 40 0;walker c 60 0;", "walker a 50 0;walker b 60 0;walker c 40 0;",
            "walker a 50 0;walker b 41 0;walker c 59 0;", "walker a 50 0;walker b 40 0;walker c 59 0;",
            "walker a 50 0;walker b 59 0;walker c 40 0;", "walker a 50 0;walker b 40 0;walker c 50 0;"};
        int[] due = {1, 1, 1, 2, 1, 2};
        for (int i = 0; i < beaches.length; i++) {
            Check.due(beaches[i], Check.on(beaches[i] + "dog d a 1 0 near;").next(0), due[i]);
        }
        Check.due("from the last", Check.on(beaches[0] + "dog d c 1 0 near;").next(0), 0);
        Check.due("of three like ones", Check.on(beaches[5] + "walker e 50 0;dog d e 1 0 near;").next(0), 0);
    }

    private static void nearAsTheyAre() {
        Check.about("first each WALKER .. Then DOG by DOG: it chooses");
        BetweenThem x = Check.on("walker a 50 0;walker b 45 0;walker c 56 2 back;dog d a 1 0 near;");
        Check.due("now b", x.next(0), 1);
        x.seconds(1);
        Check.due("c came nearer first", x.dog(0, 4), 2);
    }

    private static void last() {
        Check.about("last: whom it saw the longest ago, whom it never saw ahead of all, of like ones the first");
        BetweenThem x = Check.on("walker a 0 0;walker b 0 0;walker c 0 0;walker e 0 0;dog d b 1 0 last;");
        int[] seen = {0, 2, 3, 1, 0, 2, 3};
        for (int i = 0; i < seen.length; i++) {
            Check.due("next " + i, x.next(0), seen[i]);
            x.seconds(1);
            Check.due("saw " + i, x.dog(0, 6), seen[i]);
        }
        x.throwStick(0);
        x.seconds(1);
        // it saw b in SECOND 3, c in 5, e in 6, a in 7
        Check.due("b is the longest ago", x.next(0), 1);
        BetweenThem y = Check.on("walker a 0 0;walker b 0 0;walker c 0 0;dog d a 1 0 last;");
        y.throwStick(2);
        y.seconds(1);
        Check.due("b was never seen, a at first", y.next(0), 1);
    }

    private static void lastAtFirst() {
        Check.about("him where it is at first it saw at SECOND -1");
        BetweenThem x = Check.on("walker a 0 0;walker b 0 0;walker c 0 0;dog d c 1 0 last;");
        x.throwStick(1);
        x.seconds(1);
        // b in SECOND 0, c at -1, a never
        Check.due("a", x.next(0), 0);
        x.seconds(1);
        Check.due("c: -1 is ahead of 0", x.next(0), 2);
        x.seconds(1);
        Check.due("b", x.next(0), 1);
    }

    private static void call() {
        Check.about("call: who called last; if nobody did, or it is him, as other");
        BetweenThem x = Check.on("walker a 0 0;walker b 0 0;walker c 0 0;walker e 0 0;dog d b 1 0 call;");
        Check.due("nobody did", x.next(0), 2);
        x.call(0);
        Check.due("a", x.next(0), 0);
        x.call(3);
        Check.due("e called last", x.next(0), 3);
        x.call(1);
        Check.due("it is him", x.next(0), 2);
        x.call(3);
        x.seconds(1);
        Check.due("with e", x.dog(0, 6), 3);
        Check.due("as other, behind the last", x.next(0), 0);
        x.seconds(1);
        Check.due("he still called last", x.next(0), 3);
    }

    // ---- acts

    private static BetweenThem three() {
        return Check.on("walker a 0 1;walker b 50 1;walker c 90 1;dog d a 5 0 other;");
    }

    private static void stopping() {
        Check.about("To STOP: why not: 1 he does not walk");
        BetweenThem x = three();
        Check.due("he walks", x.stop(1), 0);
        Check.due("he does not", x.stop(1), 1);
        Check.due("again", x.stop(1), 1);
        Check.due("walks", x.now(4), 5);
        Check.due("only one is undone", x.undo(), 0);
        Check.due("walks", x.now(4), 7);
        Check.due("no such one", x.stop(3), -1);
        Check.due("no such one", x.stop(-1), -1);
        Check.due("the last", x.stop(2), 0);
        Check.due("the first", x.stop(0), 0);
    }

    private static void walking() {
        Check.about("To WALK: 1 he walks");
        BetweenThem x = three();
        Check.due("he walks", x.walk(2), 1);
        Check.due("none was done", x.undo(), -1);
        x.stop(2);
        Check.due("he does not", x.walk(2), 0);
        Check.due("he does", x.walk(2), 1);
        Check.due("two were done", x.undo(), 1);
        Check.due("he stands again", x.now(4), 3);
        Check.due("no such one", x.walk(3), -1);
        Check.due("no such one", x.walk(-1), -1);
    }

    private static void turningRound() {
        Check.about("To TURN: he goes the other way");
        BetweenThem x = three();
        for (int i = 1; i <= 5; i++) {
            Check.due("turn", x.turn(1), 0);
            Check.due("back", x.walker(1, 2), i % 2);
        }
        x.stop(1);
        Check.due("who stands turns too", x.turn(1), 0);
        Check.due("he stands", x.walker(1, 3), 0);
        Check.due("no such one", x.turn(3), -1);
        Check.due("no such one", x.turn(-1), -1);
    }

    private static void calling() {
        Check.about("To CALL: he called last");
        BetweenThem x = three();
        Check.due("nobody", x.now(2), -1);
        Check.due("call", x.call(2), 0);
        Check.due("he", x.now(2), 2);
        Check.due("again", x.call(2), 0);
        Check.due("another", x.call(0), 0);
        Check.due("he", x.now(2), 0);
        Check.due("each was done", x.undo(), 2);
        Check.due("he", x.now(2), 2);
        Check.due("no such one", x.call(3), -1);
        Check.due("no such one", x.call(-1), -1);
        x.seconds(60);
        Check.due("he still called last", x.now(2), 2);
    }

    private static void throwing() {
        Check.about("To THROW: 1 he has the stick: he has it (nobody else)");
        BetweenThem x = three();
        Check.due("nobody", x.now(1), -1);
        Check.due("throw", x.throwStick(1), 0);
        Check.due("he has it", x.throwStick(1), 1);
        Check.due("another", x.throwStick(2), 0);
        Check.due("nobody else", x.now(1), 2);
        Check.due("he has it not", x.throwStick(1), 0);
        Check.due("three were done", x.undo(), 2);
        Check.due("no such one", x.throwStick(3), -1);
        Check.due("no such one", x.throwStick(-1), -1);
        Check.due("still", x.now(1), 2);
    }

    // ---- promises

    private static void secondsTold() {
        Check.about("n (1 to 60) SECONDS go by: how many did; NONE: not as told");
        BetweenThem x = three();
        for (int n : new int[] {0, 61, -1, Integer.MAX_VALUE, Integer.MIN_VALUE}) {
            Check.due("seconds " + n, x.seconds(n), -1);
        }
        Check.due("none went", x.now(0), 0);
        Check.due("none to undo", x.undo(), -1);
        Check.due("1", x.seconds(1), 1);
        Check.due("60", x.seconds(60), 60);
        Check.due("61", x.now(0), 61);
        BetweenThem late = atSecond("walker a 0 1;", 540);
        Check.due("just 60 left", late.seconds(60), 60);
        late.undo();
        late.seconds(1);
        Check.due("59 left", late.seconds(60), 59);
        Check.due("600", late.now(0), 600);
        Check.due("none left", late.seconds(60), 0);
        Check.due("not as told even then", late.seconds(61), -1);
    }

    private static void walkerTold() {
        Check.about("Of a WALKER: 0 .. 6; NoSuchElementException: no such ones");
        BetweenThem x = atSecond("line 60;keeps 9;walker a 50 3;walker b 9 2 back;dog d a 30 0 other;", 2);
        // the dog: 23 in SECOND 0, b at 5 in SECOND 1
        int[][] due = {{56, 3, 0, 1, 0, 0, 6}, {5, 2, 1, 1, 0, 1, 4}};
        for (int w = 0; w < 2; w++) {
            for (int what = 0; what < 7; what++) {
                Check.due("walker " + w + " " + what, x.walker(w, what), due[w][what]);
            }
        }
        for (int w : new int[] {-1, 2, 6, Integer.MIN_VALUE, Integer.MAX_VALUE}) {
            Check.dueThrows("walker " + w, () -> x.walker(w, 0));
        }
        for (int what : new int[] {-1, 7, Integer.MIN_VALUE, Integer.MAX_VALUE}) {
            Check.dueThrows("what " + what, () -> x.walker(0, what));
        }
        Check.dueThrows("none at all", () -> new BetweenThem().walker(0, 0));
    }

    private static void dogTold() {
        Check.about("Of a DOG: 0 .. 6; NoSuchElementException: no such ones");
        BetweenThem x = atSecond("walker a 0 0;walker b 9 0;dog d a 9 4 other;tires d 1;dog e b 4 0 other;", 2);
        int[][] due = {{9, 8, 9, 1, -1, 3, 1}, {1, 4, 8, 0, 0, 0, 1}};
        for (int d = 0; d < 2; d++) {
            for (int what = 0; what < 7; what++) {
                Check.due("dog " + d + " " + what, x.dog(d, what), due[d][what]);
            }
        }
        for (int d : new int[] {-1, 2, Integer.MIN_VALUE, Integer.MAX_VALUE}) {
            Check.dueThrows("dog " + d, () -> x.dog(d, 0));
        }
        for (int what : new int[] {-1, 7, Integer.MIN_VALUE, Integer.MAX_VALUE}) {
            Check.dueThrows("what " + what, () -> x.dog(0, what));
        }
        Check.dueThrows("none at all", () -> new BetweenThem().dog(0, 0));
        Check.dueThrows("one alone", () -> three().dog(1, 0));
    }

    private static void nowTold() {
        Check.about("now: 0 .. 5; NONE for another what");
        BetweenThem x = Check.on("keeps 2;walker a 0 0;walker b 0 0;walker c 90 1;dog d a 9 0 near;dog e b 9 0 near;");
        x.stop(1);
        x.call(1);
        x.throwStick(2);
        x.seconds(1);
        int[] due = {1, 2, 1, 0, 5, 0};
        for (int what = 0; what < 6; what++) {
            Check.due("now " + what, x.now(what), due[what]);
        }
        x.seconds(1);
        Check.due("all hang back", x.now(3), 7);
        for (int what : new int[] {-1, 6, Integer.MIN_VALUE, Integer.MAX_VALUE}) {
            Check.due("now " + what, x.now(what), -1);
        }
        BetweenThem y = atSecond("walker a 0 0;walker b 0 0;dog d a 9 0 near;dog e b 9 1 near;", 3);
        Check.due("all TURNS of both", y.now(5), 5);
    }

    private static void nextTold() {
        Check.about("Whom a DOG would choose now, if it chose; NONE: nobody, no such one");
        BetweenThem x = Check.on("walker a 0 0;walker b 50 0;walker c 60 0;dog d a 5 5 other;");
        x.seconds(1);
        Check.due("it goes to b", x.dog(0, 4), 1);
        x.throwStick(2);
        Check.due("it would choose c", x.next(0), 2);
        Check.due("it goes to b", x.dog(0, 4), 1);
        x.throwStick(0);
        x.seconds(9);
        Check.due("it turns", x.dog(0, 5), 5);
        Check.due("if it chose", x.next(0), 0);
        Check.due("it goes to nobody", x.dog(0, 4), -1);
        for (int d : new int[] {-1, 1, 2, Integer.MIN_VALUE, Integer.MAX_VALUE}) {
            Check.due("no such one " + d, x.next(d), -1);
        }
        for (String law : new String[] {"other", "near", "last", "call"}) {
            BetweenThem y = Check.on("walker a 0 0;walker b 50 0;walker c 60 0;dog d a 5 0 " + law + ";");
            for (int i = 0; i < 9; i++) {
                y.seconds(1);
                Check.due(law + ": on its way to b", y.dog(0, 4), 1);
                Check.due(law + ": it would choose b again", y.next(0), 1);
            }
        }
        Check.due("nobody", Check.on("walker a 0 0;dog d a 5 5 other;").next(0), -1);
        Check.due("none at all", new BetweenThem().next(0), -1);
    }

    private static void undoTold() {
        Check.about("The latest of stop(), walk(), turn(), call(), throwStick() that was done, seconds() above 0,"
                + " drawn() above 0, a LOG that was lived is undone: how many more can be");
        BetweenThem x = three();
        x.stop(0);
        x.walk(0);
        x.turn(1);
        x.call(2);
        x.throwStick(2);
        x.seconds(7);
        x.drawn(9, 4);
        Check.log(x, 1, "second 5;c turns;");
        Check.due("21", x.now(0), 21);
        Check.due("the LOG", x.undo(), 7);
        Check.due("16", x.now(0), 16);
        Check.due("drawn", x.undo(), 6);
        Check.due("7", x.now(0), 7);
        Check.due("seconds", x.undo(), 5);
        Check.due("0", x.now(0), 0);
        Check.due("the stick", x.now(1), 2);
        Check.due("throw", x.undo(), 4);
        Check.due("the stick", x.now(1), -1);
        Check.due("call", x.undo(), 3);
        Check.due("called", x.now(2), -1);
        Check.due("back", x.walker(1, 2), 1);
        Check.due("turn", x.undo(), 2);
        Check.due("back", x.walker(1, 2), 0);
        Check.due("walk", x.undo(), 1);
        Check.due("he stands", x.walker(0, 3), 0);
        Check.due("stop", x.undo(), 0);
        Check.due("he walks", x.walker(0, 3), 1);
        Check.due("NONE: none is", x.undo(), -1);
        Agree.alike("as at first", x, three());
    }

    private static void undoEight() {
        Check.about("undo: 8 at most are kept");
        for (int acts : new int[] {1, 7, 8, 9, 15, 16, 17, 40}) {
            BetweenThem x = three();
            for (int i = 0; i < acts; i++) {
                x.seconds(1);
            }
            int kept = Math.min(8, acts);
            for (int i = 1; i <= kept; i++) {
                Check.due("of " + acts, x.undo(), kept - i);
                Check.due("second", x.now(0), acts - i);
            }
            Check.due("no more of " + acts, x.undo(), -1);
            Check.due("still", x.now(0), acts - kept);
            x.turn(0);
            Check.due("one more", x.undo(), 0);
        }
    }

    private static void undoNot() {
        Check.about("undo: of what was done alone");
        BetweenThem x = three();
        x.walk(0);
        x.stop(5);
        x.seconds(61);
        x.drawn(61, 1);
        x.drawn(0, 1);
        Check.log(x, 0, "second 5;");
        Check.log(x, 1, "second 61;");
        Check.log(x, 2, "second 5;");
        x.end(0);
        x.run(0, 60);
        x.least(0, 0);
        x.odds(0, 30, 1);
        Check.sentence(x, "stands");
        x.image(0);
        Check.due("nothing of these", x.undo(), -1);
        BetweenThem late = atSecond("walker a 0 1;", 600);
        Check.due("the tenth of 60 seconds", late.undo(), 7);
        late.seconds(60);
        late.seconds(1);
        late.drawn(1, 1);
        Check.due("no SECONDS went by: not kept", late.undo(), 7);
        Check.due("540", late.now(0), 540);
    }

    private static void newBeach() {
        Check.about("A new BEACH: SECOND 0, no TURN yet, nobody has the stick, no SENTENCE");
        String beach = "line 100;walker a 0 3;walker b 90 2 back;walker c 50 0;dog d a 9 3 other;dog e c 7 0 near;";
        for (int second = 0; second < 14; second++) {
            BetweenThem x = atSecond(beach, second);
            x.throwStick(2);
            x.call(1);
            x.stop(0);
            Check.sentence(x, "stands");
            Check.due("a new one", Check.beach(x, beach), 6);
            Check.due("no SENTENCE", x.told(-1), -1);
            Check.due("no TURN yet", x.now(5), 0);
            Check.due("no TURN yet", x.turned(0, 0), -1);
            Check.due("SECOND", x.now(0), 0);
            Check.due("the stick", x.now(1), -1);
            Check.sentence(x, "stands");
            Check.due("none has gone: all stand", x.told(-1), 3);
            Check.sentence(x, "sought");
            Check.due("nobody is sought", x.told(-1), 0);
            Agree.alike("as on a new object", x, Check.on(beach));
        }
    }
}
