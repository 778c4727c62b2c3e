import java.util.NoSuchElementException;

/** Each call that is refused, or that only asks, changes nothing but what the document says (the tape is empty). */
public final class RefusedTest {
    private static final String BEACH = "line 100;body 2;keeps 9;walker ann 0 1;walker bob 60 2 back;walker cid 97 0;"
            + "dog rex ann 10 1 other;dog pip cid 5 0 near;tires pip 3;";

    public static void main(String[] args) {
        refused();
        asked();
        usingTheTape();
        atTheEnd();
        Check.finish();
    }

    private interface Call {
        long on(BetweenThem x);
    }

    /** With something of all that could be lost. */
    private static BetweenThem prepared() {
        BetweenThem x = Check.on(BEACH);
        Check.log(x, 1, "second 3;bob throws;bob throws;");
        Check.sentence(x, "stands or by bob");
        x.seconds(7);
        x.image(1);
        x.turn(1);
        x.call(2);
        x.throwStick(0);
        x.stop(2);
        Check.beach(x, "body 10;");
        Check.text(x, "second 5;");
        return x;
    }

    private static long answer(Call call, BetweenThem x) {
        try {
            return call.on(x);
        } catch (NoSuchElementException e) {
            return Long.MIN_VALUE;
        }
    }

    private static void same(String what, Call call, long due) {
        BetweenThem x = prepared();
        BetweenThem y = prepared();
        Check.due(what, answer(call, x), due);
        Agree.alike(what, x, y);
        Check.due(what + " and the tape", x.log(0), y.log(0));
        Agree.alikeToTheLast(what, x, y);
    }

    private static void refused() {
        Check.about("a call that is refused changes nothing");
        long thrown = Long.MIN_VALUE;
        same("stop who stands", x -> x.stop(2), 1);
        same("stop nobody", x -> x.stop(3), -1);
        same("walk who walks", x -> x.walk(0), 1);
        same("walk nobody", x -> x.walk(-1), -1);
        same("turn nobody", x -> x.turn(3), -1);
        same("call nobody", x -> x.call(6), -1);
        same("throw who has it", x -> x.throwStick(0), 1);
        same("throw nobody", x -> x.throwStick(3), -1);
        same("seconds 0", x -> x.seconds(0), -1);
        same("seconds 61", x -> x.seconds(61), -1);
        same("drawn 0", x -> x.drawn(0, 5), -1);
        same("drawn 61", x -> x.drawn(61, 5), -1);
        same("end below", x -> x.end(-1) ? 1 : 0, 0);
        same("end beyond", x -> x.end(10) ? 1 : 0, 0);
        same("image", x -> x.image(2) ? 1 : 0, 0);
        same("restore", x -> x.restore(0) ? 1 : 0, 0);
        same("restore", x -> x.restore(-1) ? 1 : 0, 0);
        same("log", x -> x.log(2), -1000);
        same("walker", x -> x.walker(3, 0), thrown);
        same("walker", x -> x.walker(0, 7), thrown);
        same("dog", x -> x.dog(2, 0), thrown);
        same("dog", x -> x.dog(0, -1), thrown);
        same("far", x -> x.far(0, 2, 1, 0), thrown);
        same("far", x -> x.far(0, 1, 9, 2), thrown);
        same("near", x -> x.near(0, 1, 9, 0, 0), thrown);
        same("near", x -> x.near(0, 1, 100, 1, 0), thrown);
        same("ends", x -> x.ends(1, 1, 9), thrown);
    }

    private static void asked() {
        Check.about("a call that asks changes nothing");
        BetweenThem z = prepared();
        same("fault", x -> x.fault(), 2);
        same("gap", x -> x.gap(0, 1), z.gap(0, 1));
        same("meet", x -> x.meet(0, 1), z.meet(0, 1));
        same("run", x -> x.run(0, 60), z.run(0, 60));
        same("turns", x -> x.turns(1, 60), z.turns(1, 60));
        same("next", x -> x.next(1), 0);
        same("said", x -> x.said(0, 1), 1);
        same("dearest", x -> x.dearest(), z.dearest());
        same("far", x -> x.far(0, 1, 9, 0), z.far(0, 1, 9, 0));
        same("near", x -> x.near(0, 1, 9, 6, 1), z.near(0, 1, 9, 6, 1));
        same("ends", x -> x.ends(0, 1, 9), z.ends(0, 1, 9));
        same("round", x -> x.round(0), 3);
        same("circle", x -> x.circle(0), 7);
        same("strays", x -> x.strays(), z.strays());
        same("least", x -> x.least(0, 0), z.least(0, 0));
        same("runs", x -> x.runs(0, 0), z.runs(0, 0));
        same("turned", x -> x.turned(0, 0), 1);
        same("turnedAt", x -> x.turnedAt(0, 20), -1);
        same("odds", x -> x.odds(0, 30, 7), z.odds(0, 30, 7));
        same("logged", x -> x.logged(0), 21);
        same("told", x -> x.told(-1), z.told(-1));
        same("count", x -> x.count(5), 9);
        same("now", x -> x.now(0), 10);
    }

    private static void emptying(String what, Call call, long due) {
        BetweenThem x = prepared();
        BetweenThem y = prepared();
        Check.due(what, answer(call, x), due);
        Check.due(what + ": the tape is empty", x.count(5), 0);
        y.end(0);
        Agree.alike(what, x, y);
        Agree.alikeToTheLast(what, x, y);
    }

    private static void usingTheTape() {
        Check.about("The tape (empty then, here and below)");
        emptying("prints not as told", x -> x.prints(), -1);
        emptying("judge not as told", x -> x.judge(0), -2);
        emptying("judge of no such dog", x -> x.judge(2), -2);
        emptying("laws not as told", x -> x.laws(), -1);
        emptying("prints", x -> {
            x.end(0);
            Check.bytes(x, 0, 15);
            return x.prints();
        }, 0);
        emptying("judge", x -> {
            x.end(0);
            Check.bytes(x, 0, 1);
            return x.judge(1);
        }, prediction());
        emptying("laws", x -> {
            x.end(0);
            Check.bytes(x, 0, 1);
            return x.laws();
        }, 7);
        emptyingTexts();
    }

    /** By living it: pip's TURNS from now on. */
    private static long prediction() {
        BetweenThem y = prepared();
        int had = y.dog(1, 3);
        int[] told = {0, 1};
        for (int i = 0; i < 300; i++) {
            y.seconds(1);
            int k = y.dog(1, 3) - had - 1;
            if (k >= 0 && k < 2 && y.turned(1, 0) != told[k]) {
                return k;
            }
            if (k >= 1) {
                return -1;
            }
        }
        return y.dog(1, 3) - had;
    }

    private static void emptyingTexts() {
        BetweenThem w = prepared();
        Check.due("a FAULT of beach", w.beach(), -1);
        Check.due("the tape is empty", w.count(5), 0);
        Agree.alike("it stays", w, prepared());
        BetweenThem x = prepared();
        Check.due("a FAULT of sentence", x.sentence(), -1);
        Check.due("the tape is empty", x.count(5), 0);
        Check.due("it stays", x.told(-1), prepared().told(-1));
        BetweenThem y = prepared();
        y.end(8);
        Check.due("a FAULT of log", y.log(1), -10);
        Check.due("the tape is empty", y.count(5), 0);
        BetweenThem z = prepared();
        z.end(0);
        y = prepared();
        y.end(8);
        y.log(1);
        z.log(2);
        Agree.alike("nothing was lived", y, z);
    }

    private static void atTheEnd() {
        Check.about("seconds() above 0, drawn() above 0");
        BetweenThem x = Check.on(BEACH);
        BetweenThem y = Check.on(BEACH);
        Check.pass(x, 600);
        Check.pass(y, 600);
        Check.due("none went", x.seconds(60), 0);
        Check.due("none went", x.drawn(60, 1), 0);
        Agree.alike("nothing changed", x, y);
        Agree.alikeToTheLast("nothing changed", x, y);
    }
}
