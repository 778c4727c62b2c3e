/** At each place of each text: which TOKENS can come there, and the FAULT of each other one. */
public final class GrammarTest {
    private static final String[] PROBES = {";", "(", ")", "<", "=", ">", "5", "zz", "a", "d", "line", "body", "keeps",
        "walker", "dog", "tires", "back", "other", "near", "last", "call", "stops", "walks", "turns", "calls", "throws",
        "second", "or", "and", "not", "stands", "hangs", "sought", "by", "place", "pace", "visits", "number", "$", "A",
        "1000", "5x", "abcdefgh", ".", ""};
    private static final String KNOWN = "walker a 9 0;dog d a 1 0 other;";
    private static final String NEW_NAME = "{new}";
    private static final String A_WALKER = "{walker}";
    private static final String A_DOG = "{dog}";
    private static final String ONE = "( not stands hangs sought by place pace visits number";

    public static void main(String[] args) {
        beach();
        beachOnEmpty();
        log();
        sentence();
        numbersThenLess();
        staleNames();
        Check.finish();
    }

    /** The kind of the FAULT that a probe makes where only some can come; 0 if it can. */
    private static int kind(String probe, String wanted) {
        boolean name = probe.equals("zz") || probe.equals("a") || probe.equals("d");
        if (wanted.startsWith(NEW_NAME)) {
            return !name ? 1 : probe.equals("zz") ? 0 : 3;
        }
        for (String can : wanted.split(" ")) {
            if (can.equals(probe) && !probe.isEmpty() || can.equals("end") && probe.isEmpty()) {
                return 0;
            }
            if (can.equals("again:" + probe)) {
                return 3;
            }
        }
        if (wanted.startsWith(A_WALKER)) {
            return !name ? 1 : probe.equals("a") ? 0 : 3;
        }
        if (wanted.startsWith(A_DOG)) {
            return !name ? 1 : probe.equals("d") ? 0 : 3;
        }
        return 1;
    }

    private interface Reader {
        int read(BetweenThem x);
    }

    /** What is behind a probe that can come is of no matter: a FAULT, if there is one, is farther on. */
    private static void probe(String before, String text, String wanted, Reader reader, int base) {
        for (String probe : PROBES) {
            for (String behind : new String[] {"", " ;", " 5 5 ;", " other ;"}) {
                BetweenThem x = Check.on(before);
                String whole = text + " " + probe + behind;
                if (probe.isEmpty() && !behind.isEmpty()) {
                    continue;
                }
                Check.text(x, whole);
                int answer = reader.read(x);
                int place = text.length() + 1;
                int kind = kind(probe, wanted);
                if (kind == 0) {
                    Check.due("'" + whole + "' has no fault there", answer == base - place, false);
                } else {
                    Check.due("'" + whole + "'", answer, base - place);
                    Check.due("fault of '" + whole + "'", x.fault(), kind);
                }
            }
        }
    }

    private static void beachPlace(String text, String wanted) {
        probe("", text, wanted, x -> x.beach(), -1);
    }

    private static void beach() {
        Check.about("LINE: .. 'walker' NAME PLACE PACE [ 'back' ] | 'dog' NAME WALKER PACE TURN LAW | 'tires' DOG N");
        beachPlace(KNOWN + "body", "5");
        beachPlace(KNOWN + "body 5", ";");
        beachPlace(KNOWN + "keeps", "5");
        beachPlace(KNOWN + "keeps 5", ";");
        beachPlace(KNOWN + "walker", NEW_NAME);
        beachPlace(KNOWN + "walker w", "5");
        beachPlace(KNOWN + "walker w 5", "5");
        beachPlace(KNOWN + "walker w 5 5", "; back");
        beachPlace(KNOWN + "walker w 5 5 back", ";");
        beachPlace(KNOWN + "dog", NEW_NAME);
        beachPlace(KNOWN + "dog e", A_WALKER);
        beachPlace(KNOWN + "dog e a", "5");
        beachPlace(KNOWN + "dog e a 5", "5");
        beachPlace(KNOWN + "dog e a 5 5", "other near last call");
        beachPlace(KNOWN + "dog e a 5 5 other", ";");
        beachPlace(KNOWN + "tires", A_DOG);
        beachPlace(KNOWN + "tires d", "5");
        beachPlace(KNOWN + "tires d 5", ";");
    }

    private static void beachOnEmpty() {
        Check.about("{ LINE ; }");
        beachPlace("", "line body keeps walker dog tires end");
        beachPlace("body 5;", "line keeps walker dog tires end again:body");
        beachPlace("keeps 5;", "line body walker dog tires end again:keeps");
        beachPlace("line 5;", "keeps body walker dog tires end again:line");
        beachPlace(KNOWN, "keeps body walker dog tires end again:line");
        beachPlace("line", "5");
        beachPlace("line 5", ";");
        BetweenThem x = new BetweenThem();
        Check.due("not on the same LINE", Check.beach(x, "body 5 keeps 5;"), -8);
        Check.due("no empty LINE", Check.beach(x, "body 5;;keeps 5;"), -8);
    }

    private static void logPlace(String text, String wanted) {
        probe(KNOWN, text, wanted, x -> x.log(0), -2);
    }

    private static void log() {
        Check.about("LOG: WALKER ( 'stops' | 'walks' | 'turns' | 'calls' | 'throws' ) | 'second' N");
        logPlace("", A_WALKER + " second end");
        logPlace("a stops;", A_WALKER + " second end");
        logPlace("a", "stops walks turns calls throws");
        logPlace("a stops", ";");
        logPlace("a walks", ";");
        logPlace("a turns", ";");
        logPlace("a calls", ";");
        logPlace("a throws", ";");
        logPlace("second", "5");
        logPlace("second 5", ";");
    }

    private static void sentencePlace(String text, String wanted) {
        probe(KNOWN, text, wanted, x -> x.sentence(), -1);
    }

    private static void sentence() {
        Check.about("COND: ALL { 'or' ALL }. ALL: ONE { 'and' ONE }. ONE: ..");
        sentencePlace("", ONE);
        sentencePlace("(", ONE);
        sentencePlace("not", ONE);
        sentencePlace("stands or", ONE);
        sentencePlace("stands and", ONE);
        sentencePlace("stands or not (", ONE);
        for (String one : new String[] {"stands", "hangs", "sought", "by a", "place < 5", "pace = 5", "visits > 5",
            "number = 5", "not stands", "(stands)", "stands or stands", "stands and stands"}) {
            sentencePlace(one, "or and end");
            sentencePlace("(" + one, "or and )");
            sentencePlace("not (" + one + ")", "or and end");
        }
        sentencePlace("by", A_WALKER);
        for (String what : new String[] {"place", "pace", "visits", "number"}) {
            sentencePlace(what, "< = >");
            sentencePlace(what + " <", "5");
            sentencePlace(what + " =", "5");
            sentencePlace(what + " >", "5");
        }
    }

    private static void bad(String text, int place, int kind) {
        BetweenThem x = new BetweenThem();
        Check.due("'" + text + "'", Check.beach(x, text), -1 - place);
        Check.due("fault of '" + text + "'", x.fault(), kind);
    }

    private static void numbersThenLess() {
        Check.about("2 a NUMBER that is not as told (at it)");
        bad("line 5;walker w 7;", 16, 2);
        bad("line 5;walker w 7 back;", 16, 2);
        bad("line 5;walker w 6 10;", 16, 2);
        bad("walker w 0 10 back;", 11, 2);
        String two = "line 5;walker a 1 1;walker b 2 2;";
        bad(two + "walker w 7;", two.length() + 9, 2);
        bad(two + "walker w 7 7;", two.length() + 9, 2);
        bad(two + "walker w 1;", two.length() + 10, 1);
        bad(two + "walker w;", two.length() + 8, 1);
        bad(two + "dog e a 0 near;", two.length() + 8, 2);
        bad(two + "dog e a 5;", two.length() + 9, 1);
        bad("walker w 0 0;dog e w 0 other;", 21, 2);
        bad("walker w 0 0;dog e w 0 0 other;", 21, 2);
        bad("walker w 0 0;dog e w 31 10 here;", 21, 2);
        bad("walker w 0 0;dog e w 5 10;", 23, 2);
        bad("line 0 0;", 5, 2);
        bad("keeps 0 5;", 6, 2);
        bad("body 10 5;", 5, 2);
        bad(KNOWN + "tires d 0 5;", KNOWN.length() + 8, 2);
    }

    /** What a text with a FAULT told is not there in the next one. */
    private static void staleNames() {
        Check.about("a FAULT: it stays; A new BEACH");
        String[] wrong = {"walker a 0 0;dog d z 1 0 other;", "walker a 0 0;dog d a 0 0 other;", "walker w 5 5;walker",
            "walker a 9 9;dog d a 30 9 last;tires d 0;", "line 0;", "body 10;", "keeps 0;", "walker a 999 0;",
            "walker a 0 10;", "walker a 0 0;dog d a 1 10 other;", KNOWN + "dog e a 0 0 near;"};
        String[] good = {"", "walker a 0 0;", "walker a 3 1;walker b 9 2;dog d b 1 0 other;", "body 3;keeps 4;line 9;"};
        for (String w : wrong) {
            for (String g : good) {
                BetweenThem x = new BetweenThem();
                Check.due("wrong", Check.beach(x, w) < 0, true);
                Check.due("good", Check.beach(x, g) >= 0, true);
                Agree.alike("'" + g + "' behind '" + w + "'", x, Check.on(g));
                x.seconds(9);
                BetweenThem y = Check.on(g);
                y.seconds(9);
                Agree.alike("later: '" + g + "' behind '" + w + "'", x, y);
            }
        }
    }
}
