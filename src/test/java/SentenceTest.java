/** Promises 5, 40, 41: a SENTENCE, and of whom it may be said. */
public final class SentenceTest {
    private static final String BEACH = "line 100;body 3;keeps 4;walker ann 0 1;walker bob 60 2 back;walker cid 97 0;"
            + "walker dee 94 9;dog rex ann 10 1 other;dog pip cid 5 0 near;";

    public static void main(String[] args) {
        plain();
        joined();
        inSeconds();
        faults();
        tooMany();
        tooLong();
        stays();
        Check.finish();
    }

    private static int bits(BetweenThem x) {
        int many = x.told(-1);
        int bits = 0;
        int before = -1;
        for (int k = 0; k < many; k++) {
            int w = x.told(k);
            Check.due("in order", w > before, true);
            bits |= 1 << w;
            before = w;
        }
        Check.due("none behind the last", x.told(many), -1);
        Check.due("none such", x.told(-2), -1);
        return bits;
    }

    private static void said(BetweenThem x, String text, int ones, int bits) {
        Check.due("ones of " + text, Check.sentence(x, text), ones);
        Check.due("fault of " + text, x.fault(), 0);
        Check.due("said " + text, bits(x), bits);
    }

    private static void plain() {
        BetweenThem x = Check.on(BEACH);
        said(x, "stands", 1, 15);
        said(x, "hangs", 1, 0);
        said(x, "sought", 1, 0);
        said(x, "by cid", 1, 12);
        said(x, "by ann", 1, 1);
        said(x, "place<60", 1, 1);
        said(x, "place = 60", 1, 2);
        said(x, "place > 60", 1, 12);
        said(x, "pace > 1", 1, 10);
        said(x, "pace = 000", 1, 4);
        said(x, "visits = 0", 1, 15);
        said(x, "visits > 999", 1, 0);
        said(x, "number < 2", 1, 3);
        said(x, "\n number = 3 ", 1, 8);
        Check.due("none ahead of any", Check.on(BEACH).told(-1), -1);
        Check.due("none ahead of any", Check.on(BEACH).told(0), -1);
        BetweenThem empty = new BetweenThem();
        said(empty, "not stands", 2, 0);
    }

    private static void joined() {
        BetweenThem x = Check.on(BEACH);
        said(x, "place > 50 and not by cid", 3, 2);
        said(x, "number = 0 or number = 1 and pace = 1", 3, 1);
        said(x, "(number = 0 or number = 1) and pace = 1", 4, 1);
        said(x, "number = 0 or number = 1 and pace = 2", 3, 3);
        said(x, "(number = 0 or number = 1) and pace = 2", 4, 2);
        said(x, "number = 1 and pace = 2 or number = 3", 3, 10);
        said(x, "number = 1 and (pace = 2 or number = 3)", 4, 2);
        said(x, "not number = 1 and not number = 2", 4, 9);
        said(x, "not (number = 1 or number = 2)", 4, 9);
        said(x, "not not number = 1", 3, 2);
        said(x, "((stands))", 3, 15);
        said(x, "not(not(pace=9))", 5, 8);
        said(x, "number=0 or number=1 or number=3 and stands", 4, 11);
    }

    private static void inSeconds() {
        BetweenThem x = Check.on(BEACH);
        x.seconds(1);
        said(x, "stands", 1, 4);
        // rex goes to bob, pip was with dee, who is at 100
        said(x, "sought", 1, 2);
        said(x, "visits = 1", 1, 8);
        x.stop(0);
        said(x, "stands", 1, 4);
        x.seconds(1);
        said(x, "stands", 1, 13);
        said(x, "place = 100", 1, 8);
        x.walk(0);
        x.seconds(2);
        said(x, "hangs", 1, 3);
        x.seconds(1);
        said(x, "stands and hangs", 2, x.now(3) & 3);
        said(x, "not hangs", 2, 15 ^ x.now(3));
    }

    private static void bad(String text, int place, int kind) {
        BetweenThem x = Check.on(BEACH);
        Check.sentence(x, "by bob");
        Check.due("place in " + text, Check.sentence(x, text), -1 - place);
        Check.due("kind in " + text, x.fault(), kind);
        Check.due("tape", x.count(5), 0);
        Check.due("it stays", bits(x), 2);
    }

    private static void faults() {
        bad("", 0, 1);
        bad("  ", 2, 1);
        bad("ann", 0, 1);
        bad("foo", 0, 1);
        bad("5", 0, 1);
        bad(")", 0, 1);
        bad("()", 1, 1);
        bad("not", 3, 1);
        bad("not and", 4, 1);
        bad("(stands", 7, 1);
        bad("stands)", 6, 1);
        bad("stands;", 6, 1);
        bad("stands or", 9, 1);
        bad("stands stands", 7, 1);
        bad("stands not hangs", 7, 1);
        bad("or stands", 0, 1);
        bad("by", 2, 1);
        bad("by 5", 3, 1);
        bad("by by", 3, 1);
        bad("by zoe", 3, 3);
        bad("by rex", 3, 3);
        bad("by ann bob", 7, 1);
        bad("place", 5, 1);
        bad("place 5", 6, 1);
        bad("place < ", 8, 1);
        bad("place < x", 8, 1);
        bad("place <> 5", 7, 1);
        bad("place < 1000", 8, 1);
        bad("place ( 5", 6, 1);
        bad("place = 5.", 9, 1);
        bad("stands and Stands", 11, 1);
    }

    private static void tooMany() {
        BetweenThem x = Check.on(BEACH);
        String twenty = "stands" + " or hangs".repeat(19);
        said(x, twenty, 20, 15);
        said(x, "hangs" + " and hangs".repeat(8) + " or not hangs" + " and not hangs".repeat(4), 19, 15);
        bad(twenty + " or hangs", 181, 4);
        bad(twenty + " or (", 181, 4);
        bad(twenty + " or not", 181, 4);
        bad(twenty + " or )", 181, 1);
        bad(twenty + " or foo", 181, 1);
        said(x, "not ".repeat(7) + "hangs", 8, 15);
        bad("not ".repeat(8) + "hangs", 32, 4);
        bad("not ".repeat(9) + "hangs", 32, 4);
        said(x, "(".repeat(7) + "stands" + ")".repeat(7), 8, 15);
        bad("(".repeat(8) + "stands" + ")".repeat(8), 8, 4);
        bad("(".repeat(8) + ")", 8, 1);
        said(x, "(((((((stands or hangs))))))) and (((((((stands)))))))", 17, 15);
    }

    private static void tooLong() {
        BetweenThem x = Check.on(BEACH);
        Check.due("200", Check.sentence(x, "stands" + Check.blanks(194)), 1);
        bad("stands" + Check.blanks(195), 200, 1);
        bad("stands and" + Check.blanks(290), 200, 1);
        bad("stands and by zoe" + Check.blanks(290), 14, 3);
        bad(Check.blanks(197) + "stands", 200, 1);
        bad(Check.blanks(197) + "standing", 197, 1);
        bad(Check.blanks(200) + "stands", 200, 1);
        bad(Check.blanks(196) + "by zoe", 199, 3);
    }

    private static void stays() {
        BetweenThem x = Check.on(BEACH);
        said(x, "by bob or pace = 9", 2, 10);
        x.seconds(3);
        Check.due("it is said of what is now", bits(x), 10);
        Check.due("log", Check.log(x, 0, "ann stops;"), -1);
        Check.due("still there", bits(x), 10);
        said(x, "number = 0", 1, 1);
    }
}
