/** Promises 4, 5: the text of a BEACH and its FAULTS. */
public final class BeachTextTest {
    public static void main(String[] args) {
        good();
        tokens();
        numbers();
        names();
        tooMany();
        tooLong();
        stays();
        anew();
        Check.finish();
    }

    private static void good(String text, int lines) {
        BetweenThem x = new BetweenThem();
        Check.due("lines of " + text, Check.beach(x, text), lines);
        Check.due("fault of " + text, x.fault(), 0);
        Check.due("tape behind " + text, x.count(5), 0);
    }

    private static void bad(String text, int place, int kind) {
        BetweenThem x = new BetweenThem();
        Check.due("place in " + text, Check.beach(x, text), -1 - place);
        Check.due("kind in " + text, x.fault(), kind);
        Check.due("tape behind " + text, x.count(5), 0);
    }

    private static void good() {
        good("", 0);
        good("  \n ", 0);
        good("line 1;", 1);
        good("line 900;body 0;keeps 99;", 3);
        good("\nline\n001\n;\nbody 09 ;", 2);
        good("body 9;keeps 1;line 5;walker a 5 9;walker b 0 0 back;", 5);
        good("walker a 400 0;dog b a 30 9 call;dog c a 1 0 last;tires c 20;tires b 1;", 5);
        good("walker abcdefg 0 0;body 1;keeps 5;", 3);
        good("walker w 1 1 back;", 1);
        bad("line900;", 0, 1);
        good("walker a 0 0;walker b 0 0;walker c 0 0;walker d 0 0;walker e 0 0;walker f 0 0;", 6);
    }

    private static void tokens() {
        bad(";", 0, 1);
        bad("foo 1;", 0, 1);
        bad("5;", 0, 1);
        bad("line 5", 6, 1);
        bad("line 5  \n", 9, 1);
        bad("line", 4, 1);
        bad("line;", 4, 1);
        bad("line 5 6;", 7, 1);
        bad("line 1000;", 5, 1);
        bad("line 5a;", 5, 1);
        bad("linea 5;", 0, 1);
        bad("line5;", 0, 1);
        bad("LINE 5;", 0, 1);
        bad("line\t5;", 4, 1);
        bad("line 5;;", 7, 1);
        bad("line 5.", 6, 1);
        bad("line 5<", 6, 1);
        bad("walker abcdefgh 0 0;", 7, 1);
        bad("walker 5 0 0;", 7, 1);
        bad("walker a b 0;", 9, 1);
        bad("walker a 0;", 10, 1);
        bad("walker a 0 0 forth;", 13, 1);
        bad("walker a 0 0 back back;", 18, 1);
        bad("walker a 0 0 back", 17, 1);
        bad("walker w 0 0;dog d w 1 0 here;", 25, 1);
        bad("walker w 0 0;dog d w 1 0 5;", 25, 1);
        bad("walker w 0 0;dog d 1 1 0 other;", 19, 1);
        bad("walker w 0 0;dog d w 1 0 other back;", 31, 1);
        for (String word : ("line body keeps walker back dog other near last call tires stops walks turns calls"
                + " throws second or and not stands hangs sought by place pace visits number").split(" ")) {
            bad("walker " + word + " 0 0;", 7, 1);
            bad("walker w 0 0;dog " + word + " w 1 0 other;", 17, 1);
            bad("walker w 0 0;dog d " + word + " 1 0 other;", 19, 1);
            bad("tires " + word + " 1;", 6, 1);
        }
        good("walker seconds 0 0;walker stick 0 0;walker stop 0 0;", 3);
    }

    private static void numbers() {
        bad("line 0;", 5, 2);
        bad("line 901;", 5, 2);
        bad("body 10;", 5, 2);
        bad("keeps 0;", 6, 2);
        bad("keeps 100;", 6, 2);
        bad("walker a 401 0;", 9, 2);
        bad("line 30;walker a 31 0;", 17, 2);
        bad("walker a 0 10;", 11, 2);
        bad("walker w 0 0;dog d w 0 0 other;", 21, 2);
        bad("walker w 0 0;dog d w 31 0 other;", 21, 2);
        bad("walker w 0 0;dog d w 30 10 other;", 24, 2);
        bad("walker w 0 0;dog d w 1 0 other;tires d 0;", 39, 2);
        bad("walker w 0 0;dog d w 1 0 other;tires d 21;", 39, 2);
    }

    private static void names() {
        bad("line 5;line 6;", 7, 3);
        bad("walker a 0 0;line 5;", 13, 3);
        bad("line 5;walker a 0 0;line 5;", 20, 3);
        bad("body 1;body 1;", 7, 3);
        bad("keeps 1;keeps 1;", 8, 3);
        bad("walker a 0 0;walker a 0 0;", 20, 3);
        bad("walker a 0 0;dog a a 1 0 other;", 17, 3);
        bad("walker a 0 0;dog d a 1 0 other;walker d 0 0;", 38, 3);
        bad("walker a 0 0;dog d a 1 0 other;dog d a 1 0 other;", 35, 3);
        bad("dog d a 1 0 other;", 6, 3);
        bad("walker a 0 0;dog d d 1 0 other;", 19, 3);
        bad("walker a 0 0;dog d a 1 0 other;dog e d 1 0 other;", 37, 3);
        bad("tires d 1;", 6, 3);
        bad("walker a 0 0;tires a 1;", 19, 3);
        bad("walker a 0 0;dog d a 1 0 other;tires d 1;tires d 1;", 47, 3);
    }

    private static void tooMany() {
        String six = "walker a 0 0;walker b 0 0;walker c 0 0;walker d 0 0;walker e 0 0;walker f 0 0;";
        bad(six + "walker g 0 0;", 78, 4);
        bad(six + "walker", 78, 4);
        String two = "walker w 0 0;dog a w 1 0 other;dog b w 1 0 other;";
        bad(two + "dog c w 1 0 other;", 49, 4);
        bad(two + " dog w w 1 0 other;", 50, 4);
    }

    private static void tooLong() {
        good("body 1;" + Check.blanks(893), 1);
        bad("body 1;" + Check.blanks(894), 900, 1);
        bad("body 1;" + Check.blanks(893) + "$", 900, 1);
        bad("body 1;" + Check.blanks(892) + "$ ", 899, 1);
        bad(Check.blanks(896) + "walker w 0 0;", 900, 1);
        bad(Check.blanks(896) + "walkers1 w 0 0;", 896, 1);
        bad(Check.blanks(894) + "line 901;", 899, 2);
        bad(Check.blanks(894) + "line 900;", 900, 1);
        bad(Check.blanks(892) + "line 900", 900, 1);
        bad(Check.blanks(899) + "line 900;", 900, 1);
        bad(Check.blanks(900) + "$", 900, 1);
        bad("line 5;line 5;" + Check.blanks(900), 7, 3);
    }

    private static void stays() {
        BetweenThem x = Check.on("line 50;body 2;walker a 7 1;");
        Check.due("a sentence", Check.sentence(x, "stands"), 1);
        x.seconds(3);
        Check.due("a wrong beach", Check.beach(x, "line 60;body 5;walker b 1 1;walker b 1 1;"), -36);
        Check.due("line stays", x.count(2), 50);
        Check.due("body stays", x.count(3), 2);
        Check.due("walkers stay", x.count(0), 1);
        Check.due("the second stays", x.now(0), 3);
        Check.due("the place stays", x.walker(0, 0), 10);
        Check.due("the sentence stays", x.told(-1), 0);
        Check.due("undo stays", x.undo(), 0);
        x.call(0);
        x.throwStick(0);
        x.seconds(2);
        Check.due("a new beach", Check.beach(x, "walker b 3 1;walker c 9 1;"), 2);
        Check.due("fault is gone", x.fault(), 0);
        Check.due("line again", x.count(2), 400);
        Check.due("body again", x.count(3), 1);
        int[] nows = {0, -1, -1, 0, 3, 0};
        for (int i = 0; i < nows.length; i++) {
            Check.due("now of a new beach " + i, x.now(i), nows[i]);
        }
        Check.due("no sentence", x.told(-1), -1);
        Check.due("nothing to undo", x.undo(), -1);
        Check.due("a fault", Check.beach(x, "body 77;"), -6);
        Check.due("its kind", x.fault(), 2);
        Check.due("a log of -1000", x.log(7), -1000);
        Check.due("leaves the kind", x.fault(), 2);
        Check.due("a log", x.log(0), -1);
        Check.due("has none", x.fault(), 0);
    }

    /** A beach told behind another one is as on a new object. */
    private static void anew() {
        String full = "line 100;body 2;keeps 3;walker a 0 1;walker b 9 2;walker c 90 0;"
                + "dog d b 9 1 near;tires d 2;dog e c 30 3 last;tires e 1;";
        String bare = "walker b 9 2;walker a 0 1;dog e b 5 0 other;dog d a 6 0 call;";
        for (String text : new String[] {full, bare, "", "walker a 1 1;walker b 2 2;"}) {
            BetweenThem x = Check.on(full);
            x.drawn(60, 5);
            for (int i = 0; i < 20 && x.dog(1, 5) == 0; i++) {
                x.seconds(1);
            }
            Check.due("it turns in the test", x.dog(1, 5) > 0, true);
            x.throwStick(1);
            x.call(1);
            Check.beach(x, text);
            Agree.alike("anew: " + text, x, Check.on(text));
            Check.due("nobody moved", Check.sentence(x, "stands"), 1);
            Check.due("nobody moved", x.told(-1), x.count(0));
            Check.due("nothing said", x.dearest(), -1);
            BetweenThem y = Check.on(text);
            x.seconds(33);
            y.seconds(33);
            Agree.alike("anew and 33: " + text, x, y);
        }
    }
}
