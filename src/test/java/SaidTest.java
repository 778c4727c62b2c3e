/** Promises 21, 22, 34, 35: what was said, and the latest turns. */
public final class SaidTest {
    public static void main(String[] args) {
        saying();
        dearest();
        turns();
        Check.finish();
    }

    private static void saying() {
        BetweenThem x = Check.on("walker a 0 0;walker b 0 0;walker c 0 0;dog d c 9 0 other;dog e a 9 1 near;");
        x.seconds(4);
        // d: c a b c a; e (each second SECOND): a b a
        int[][] said = {{0, 2, 0}, {1, 0, 1}, {2, 0, 0}};
        for (int w = 0; w < 3; w++) {
            for (int v = 0; v < 3; v++) {
                Check.due("said " + w + " " + v, x.said(w, v), said[w][v]);
            }
        }
        Check.due("all turns", x.now(5), 6);
        Check.due("seen", x.walker(0, 5), 3);
        for (int w : new int[] {-1, 3, 6}) {
            Check.due("said", x.said(w, 0), -1);
            Check.due("said", x.said(0, w), -1);
        }
    }

    private static void dearest() {
        BetweenThem x = Check.on("walker a 0 0;walker b 0 0;walker c 0 0;dog d b 9 0 other;");
        Check.due("nothing said", x.dearest(), -1);
        x.seconds(1);
        Check.due("b to c", x.dearest(), 12);
        x.seconds(1);
        Check.due("like ones: a and c", x.dearest(), 2);
        x.seconds(1);
        Check.due("like ones: a and b", x.dearest(), 1);
        x.seconds(1);
        Check.due("b to c again", x.dearest(), 12);
        BetweenThem y = Check.on("walker a 0 0;walker b 0 0;walker c 100 0;dog d c 25 0 near;");
        y.seconds(7);
        Check.due("a and b, to and fro", y.dearest(), 1);
        Check.due("once from c", y.said(2, 0), 1);
        Check.due("empty", new BetweenThem().dearest(), -1);
    }

    private static void turns() {
        BetweenThem x = Check.on("walker a 3 0;walker b 3 0;walker c 3 0;dog d a 9 0 other;dog e c 9 0 near;");
        Check.due("none yet", x.turned(0, 0), -1);
        Check.due("none yet", x.turnedAt(0, 0), -1);
        for (int i = 1; i <= 25; i++) {
            x.seconds(1);
            Check.due("the latest", x.turned(0, 0), i % 3);
            Check.due("there", x.turnedAt(0, 0), 3);
            Check.due("the first, while it is told", x.turned(0, i - 1), i <= 20 ? 1 : -1);
            Check.due("one more", x.turned(0, i), -1);
        }
        for (int k = 0; k < 20; k++) {
            Check.due("turned " + k, x.turned(0, k), (25 - k) % 3);
        }
        Check.due("no 21st", x.turned(0, 20), -1);
        Check.due("no 21st", x.turnedAt(0, 20), -1);
        for (int k : new int[] {-1, 21, Integer.MAX_VALUE, Integer.MIN_VALUE}) {
            Check.due("turned " + k, x.turned(0, k), -1);
            Check.due("turnedAt " + k, x.turnedAt(0, k), -1);
        }
        for (int d : new int[] {-1, 2}) {
            Check.due("no dog", x.turned(d, 0), -1);
            Check.due("no dog", x.turnedAt(d, 0), -1);
        }
        BetweenThem y = Check.on("line 50;walker a 0 0;walker b 40 5;dog d a 30 0 other;");
        y.seconds(4);
        // b 45: 30; b 50: there; a: 20, there
        Check.due("a", y.turned(0, 0), 0);
        Check.due("at 0", y.turnedAt(0, 0), 0);
        Check.due("b", y.turned(0, 1), 1);
        Check.due("at 50", y.turnedAt(0, 1), 50);
        Check.due("ran", y.dog(0, 2), 100);
    }
}
