import java.util.NoSuchElementException;
import java.util.Random;

/**
 * Calls by chance, always the same: nothing but the told exception is thrown, a call that only asks changes
 * nothing, and what is foreseen is what comes.
 */
public final class FuzzTest {
    private static final String[] LAWS = {"other", "near", "last", "call"};
    private static final String[] WORDS = {"line", "body", "keeps", "walker", "back", "dog", "other", "near", "last",
        "call", "tires", "stops", "walks", "turns", "calls", "throws", "second", "or", "and", "not", "stands", "hangs",
        "sought", "by", "place", "pace", "visits", "number", ";", "<", "=", ">", "(", ")", "a", "b", "c", "d", "rex",
        "pip", "0", "1", "9", "20", "100", "999", "1000", "$", " ", "\n", "zoe"};

    public static void main(String[] args) {
        for (int i = 0; i < 1600; i++) {
            wild(new Random(i));
        }
        for (int i = 0; i < 400; i++) {
            foreseen(new Random(1000 + i));
        }
        Check.finish();
    }

    private static int some(Random r, int n) {
        int kind = r.nextInt(12);
        if (kind == 0) {
            return r.nextInt();
        }
        if (kind == 1) {
            return new int[] {-1, Integer.MAX_VALUE, Integer.MIN_VALUE, n, n + 1}[r.nextInt(5)];
        }
        return r.nextInt(n);
    }

    private static String beach(Random r) {
        StringBuilder s = new StringBuilder();
        int line = r.nextInt(3) == 0 ? 1 + r.nextInt(900) : 20 + r.nextInt(100);
        s.append("line ").append(line).append(";body ").append(r.nextInt(10)).append(";");
        if (r.nextInt(3) > 0) {
            s.append("keeps ").append(1 + r.nextInt(r.nextBoolean() ? 20 : 99)).append(";");
        }
        int walkers = 1 + r.nextInt(6);
        for (int w = 0; w < walkers; w++) {
            s.append("walker ").append((char) ('a' + w)).append(' ').append(r.nextInt(line + 1)).append(' ');
            s.append(r.nextInt(10)).append(r.nextBoolean() ? " back;" : ";");
        }
        int dogs = r.nextInt(3);
        for (int d = 0; d < dogs; d++) {
            String name = d == 0 ? "rex" : "pip";
            s.append("dog ").append(name).append(' ').append((char) ('a' + r.nextInt(walkers))).append(' ');
            s.append(1 + r.nextInt(30)).append(' ').append(r.nextInt(10)).append(' ');
            s.append(LAWS[r.nextInt(4)]).append(';');
            if (r.nextBoolean()) {
                s.append("tires ").append(name).append(' ').append(1 + r.nextInt(20)).append(';');
            }
        }
        return s.toString();
    }

    private static void wild(Random r) {
        BetweenThem x = new BetweenThem();
        for (int i = 0; i < 110; i++) {
            int which = r.nextInt(60);
            try {
                if (which < 43) {
                    plainCall(x, r, which);
                } else {
                    textCall(x, r, which);
                }
            } catch (NoSuchElementException e) {
                boolean told = which == 0 || which == 1 || which == 19 || which == 20 || which == 21;
                Check.due("call " + which + " throws", told, true);
            } catch (RuntimeException e) {
                e.printStackTrace(System.out);
                Check.due("call " + which + " throws " + e, false, true);
            }
        }
    }

    private static void plainCall(BetweenThem x, Random r, int which) {
        switch (which) {
            case 0: x.walker(some(r, 6), some(r, 7)); break;
            case 1: x.dog(some(r, 2), some(r, 7)); break;
            case 2: x.now(some(r, 6)); break;
            case 3: x.stop(some(r, 6)); break;
            case 4: x.walk(some(r, 6)); break;
            case 5: x.turn(some(r, 6)); break;
            case 6: x.call(some(r, 6)); break;
            case 7: x.throwStick(some(r, 6)); break;
            case 8: case 9: x.seconds(some(r, 61)); break;
            case 10: x.undo(); break;
            case 11: x.gap(some(r, 6), some(r, 6)); break;
            case 12: x.meet(some(r, 6), some(r, 6)); break;
            case 13: x.run(some(r, 2), some(r, 61)); break;
            case 14: x.turns(some(r, 2), some(r, 61)); break;
            case 15: x.next(some(r, 2)); break;
            case 16: x.said(some(r, 6), some(r, 6)); break;
            case 17: x.dearest(); break;
            case 18: x.end(some(r, 900)); break;
            case 19: x.far(some(r, 6), some(r, 6), some(r, 100), some(r, 2)); break;
            case 20: x.near(some(r, 6), some(r, 6), some(r, 100), some(r, 7), some(r, 2)); break;
            case 21: x.ends(some(r, 6), some(r, 6), some(r, 100)); break;
            case 22: x.round(some(r, 2)); break;
            case 23: x.circle(some(r, 2)); break;
            case 24: x.strays(); break;
            case 25: x.least(some(r, 6), some(r, 2)); break;
            case 26: x.runs(some(r, 6), some(r, 2)); break;
            case 27: x.prints(); break;
            case 28: x.judge(some(r, 2)); break;
            case 29: x.laws(); break;
            case 30: x.turned(some(r, 2), some(r, 20)); break;
            case 31: x.turnedAt(some(r, 2), some(r, 20)); break;
            case 32: x.drawn(some(r, 61), r.nextInt()); break;
            case 33: x.odds(some(r, 6), some(r, 31), r.nextInt()); break;
            case 34: x.log(some(r, 2)); break;
            case 35: x.logged(some(r, 4)); break;
            case 36: x.sentence(); break;
            case 37: x.told(r.nextInt(8) - 1); break;
            case 38: x.image(some(r, 2)); break;
            case 39: x.restore(some(r, 2)); break;
            case 40: x.count(some(r, 6)); break;
            case 41: x.fault(); break;
            default: x.feed(r.nextInt(), r.nextInt(), r.nextInt(), r.nextInt(), r.nextInt()); break;
        }
    }

    private static void textCall(BetweenThem x, Random r, int which) {
        x.end(0);
        if (which < 48) {
            Check.beach(x, beach(r));
            return;
        }
        StringBuilder s = new StringBuilder();
        int words = r.nextInt(r.nextInt(10) == 0 ? 150 : 30);
        for (int i = 0; i < words && s.length() < 900; i++) {
            s.append(WORDS[r.nextInt(WORDS.length)]).append(r.nextInt(5) == 0 ? "" : " ");
        }
        Check.text(x, s.toString());
        int kind = r.nextInt(4);
        if (kind == 0) {
            x.beach();
        } else if (kind == 1) {
            x.log(r.nextInt(2));
        } else if (kind == 2) {
            x.sentence();
        } else {
            byte[] row = new byte[r.nextInt(45)];
            for (int i = 0; i < row.length; i++) {
                row[i] = (byte) r.nextInt(6);
            }
            x.end(0);
            Check.put(x, row);
        }
    }

    private static void foreseen(Random r) {
        String text = beach(r);
        BetweenThem x = Check.on(text);
        int walkers = x.count(0);
        int dogs = x.count(1);
        for (int i = r.nextInt(4); i > 0; i--) {
            x.drawn(1 + r.nextInt(60), r.nextInt());
        }
        x.image(0);
        int start = x.now(0);
        int w = r.nextInt(walkers);
        int v = r.nextInt(walkers);
        int meet = x.meet(w, v);
        int strays = x.strays();
        int n = 1 + r.nextInt(60);
        int[] run = {x.run(0, n), x.run(1, n)};
        int[] turns = {x.turns(0, n), x.turns(1, n)};
        int[] seen = turnsSeen(x);
        x.restore(0);
        judgeThem(x, r, seen);
        Check.due("asking changes nothing", x.now(0), start);
        int firstMeet = -1;
        int firstStray = -1;
        for (int s = 0; s <= 300; s++) {
            if (w != v && firstMeet < 0 && x.gap(w, v) <= x.count(3)) {
                firstMeet = x.now(0);
            }
            if (s == n) {
                for (int d = 0; d < dogs; d++) {
                    Check.due("run", run[d], x.dog(d, 2) - at(x, d, 2));
                    Check.due("turns", turns[d], x.dog(d, 3) - at(x, d, 3));
                }
            }
            if (x.seconds(1) == 0) {
                break;
            }
            if (s < 200 && firstStray < 0 && x.now(3) != 0) {
                firstStray = x.now(0) - 1;
            }
        }
        Check.due("meet", meet, firstMeet);
        Check.due("strays", strays, firstStray);
    }

    private static void judgeThem(BetweenThem x, Random r, int[] seen) {
        int length = Math.min(40, seen.length);
        if (length == 0) {
            return;
        }
        int[] tape = java.util.Arrays.copyOf(seen, length);
        Check.bytes(x, tape);
        Check.due("judge what comes", x.judge(0), -1);
        int at = r.nextInt(length);
        tape[at] = (tape[at] + 1) % x.count(0);
        Check.bytes(x, tape);
        Check.due("judge what does not come", x.judge(0), at);
    }

    /** What it was in the image: looked up and come back from. */
    private static int at(BetweenThem x, int d, int what) {
        x.image(1);
        x.restore(0);
        int answer = x.dog(d, what);
        x.restore(1);
        return answer;
    }

    private static int[] turnsSeen(BetweenThem x) {
        int[] seen = new int[300];
        int many = 0;
        if (x.count(1) == 0) {
            return new int[0];
        }
        int before = x.dog(0, 3);
        for (int s = 0; s < 300 && x.seconds(1) == 1; s++) {
            if (x.dog(0, 3) > before) {
                before++;
                seen[many] = x.turned(0, 0);
                many++;
            }
        }
        return java.util.Arrays.copyOf(seen, many);
    }
}
