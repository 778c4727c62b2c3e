/** Promises 1, 2, 3, 44: the new object, the tape, the counts. */
public final class TapeTest {
    public static void main(String[] args) {
        newObject();
        feeding();
        ending();
        counting();
        Check.finish();
    }

    private static void newObject() {
        BetweenThem x = new BetweenThem();
        Check.due("NONE", BetweenThem.NONE, -1);
        int[] counts = {0, 0, 400, 1, -1, 0};
        for (int i = 0; i < counts.length; i++) {
            Check.due("new: count " + i, x.count(i), counts[i]);
        }
        int[] nows = {0, -1, -1, 0, 0, 0};
        for (int i = 0; i < nows.length; i++) {
            Check.due("new: now " + i, x.now(i), nows[i]);
        }
        Check.due("new: fault", x.fault(), 0);
        Check.due("new: logged", x.logged(0), -1);
        Check.due("new: told", x.told(-1), -1);
        Check.due("new: restore", x.restore(1), false);
        Check.due("new: undo", x.undo(), -1);
        Check.due("new: strays", x.strays(), -1);
    }

    private static void feeding() {
        BetweenThem x = new BetweenThem();
        for (int i = 1; i <= 47; i++) {
            Check.due("feed " + i, x.feed(0, 0, 0, 0, 0), 20 * i);
        }
        Check.due("feed beyond 940", x.feed(0, 0, 0, 0, 0), -1);
        Check.due("none came", x.count(5), 940);
        Check.due("end 921", x.end(921), true);
        Check.due("feed would be 941", x.feed(0, 0, 0, 0, 0), -1);
        Check.due("still 921", x.count(5), 921);
        Check.due("end 920", x.end(920), true);
        Check.due("feed up to 940", x.feed(0, 0, 0, 0, 0), 940);
        BetweenThem y = new BetweenThem();
        y.feed(0x626F6479, 0x20353B20, 0x20202020, 0x20202020, 0x20202020);
        Check.due("highest byte first: 'body 5;'", y.beach(), 1);
        Check.due("body", y.count(3), 5);
        Check.due("tape is empty then", y.count(5), 0);
        y.feed(0x0A0A0A0A, 0x0A0A0A0A, 0x0A0A0A0A, 0x0A0A0A0A, 0x8A0A0A0A);
        Check.due("a byte above 127 is no token", y.beach(), -17);
    }

    private static void ending() {
        BetweenThem x = new BetweenThem();
        Check.due("end 0 of 0", x.end(0), true);
        Check.due("end 1 of 0", x.end(1), false);
        x.feed(1, 2, 3, 4, 5);
        Check.due("end -1", x.end(-1), false);
        Check.due("end lowest", x.end(Integer.MIN_VALUE), false);
        Check.due("end 21", x.end(21), false);
        Check.due("all there", x.count(5), 20);
        Check.due("end 20", x.end(20), true);
        Check.due("end 3", x.end(3), true);
        Check.due("3 bytes", x.count(5), 3);
        Check.due("end 4", x.end(4), false);
    }

    private static void counting() {
        BetweenThem x = Check.on("line 77;body 3;keeps 12;walker a 0 0;walker b 1 1;walker c 2 2;dog d a 1 0 near;");
        int[] counts = {3, 1, 77, 3, 12, 0};
        for (int i = 0; i < counts.length; i++) {
            Check.due("count " + i, x.count(i), counts[i]);
        }
        Check.due("count 6", x.count(6), -1);
        Check.due("count -1", x.count(-1), -1);
        x.feed(0, 0, 0, 0, 0);
        Check.due("count 5 fed", x.count(5), 20);
    }
}
