/** Promises 23, 24, 25: two who meet and one that runs between them. */
public final class BetweenTwoTest {
    public static void main(String[] args) {
        far();
        near();
        greatest();
        ends();
        wrongOnes();
        Check.finish();
    }

    private static void far(BetweenThem x, int w, int v, int u, int above, int below) {
        Check.due("far " + u + " above", x.far(w, v, u, 0), above);
        Check.due("far " + u + " below", x.far(w, v, u, 1), below);
    }

    private static void near(BetweenThem x, int w, int v, int u, int n, long above, long below) {
        Check.due("near " + u + " " + n + " above", x.near(w, v, u, n, 0), above);
        Check.due("near " + u + " " + n + " below", x.near(w, v, u, n, 1), below);
    }

    private static void far() {
        BetweenThem x = Check.on("walker a 0 4;walker b 20 6 back;walker c 7 0;walker d 9 9;");
        far(x, 0, 1, 10, 20, 1);
        far(x, 1, 0, 7, 14, 1);
        far(x, 0, 2, 5, 35, 4);
        far(x, 2, 0, 6, 21, 2);
        far(x, 0, 3, 99, 891, 13);
        x.turn(0);
        x.turn(1);
        far(x, 0, 1, 10, 20, 1);
        x.stop(0);
        far(x, 0, 1, 10, 20, 1);
        x.turn(0);
        x.walk(0);
        x.seconds(1);
        far(x, 0, 1, 10, 22, 1);
    }

    private static void near() {
        BetweenThem x = Check.on("walker a 0 1;walker b 60 2;walker c 61 0;");
        near(x, 0, 1, 10, 1, 45, 1);
        near(x, 0, 1, 10, 2, 360, 11);
        near(x, 0, 1, 10, 3, 270, 11);
        near(x, 1, 0, 10, 1, 480, 11);
        near(x, 1, 0, 10, 2, 360, 11);
        near(x, 1, 2, 3, 1, 1, 3);
        near(x, 2, 1, 3, 1, 3, 5);
        near(x, 1, 2, 3, 6, 1, 125);
    }

    private static void greatest() {
        BetweenThem x = Check.on("line 900;walker a 0 1;walker b 899 2;");
        java.math.BigInteger above = java.math.BigInteger.valueOf(899);
        java.math.BigInteger below = java.math.BigInteger.ONE;
        for (int n = 1; n <= 6; n++) {
            above = above.multiply(java.math.BigInteger.valueOf(n % 2 == 1 ? 97 - 1 : 97 - 2));
            below = below.multiply(java.math.BigInteger.valueOf(n % 2 == 1 ? 97 + 2 : 97 + 1));
            java.math.BigInteger shared = above.gcd(below);
            near(x, 0, 1, 97, n, above.divide(shared).longValueExact(), below.divide(shared).longValueExact());
        }
    }

    private static void ends() {
        BetweenThem x = Check.on("body 2;walker a 0 1;walker b 60 2;");
        Check.due("10", x.ends(0, 1, 10), -1);
        Check.due("3", x.ends(0, 1, 3), 4);
        // from b: 60 * 1/4 = 15, * 2/5 = 6, * 1/4 = 3/2
        Check.due("3 from b", x.ends(1, 0, 3), 3);
        BetweenThem y = Check.on("body 5;walker a 0 1;walker b 9 1;");
        // 9 * 1/3 = 3
        Check.due("first", y.ends(0, 1, 2), 1);
        BetweenThem z = Check.on("body 3;walker a 0 1;walker b 9 1;");
        Check.due("just BODY apart", z.ends(0, 1, 2), 1);
        BetweenThem none = Check.on("body 0;walker a 0 1;walker b 1 1;");
        Check.due("never 0", none.ends(0, 1, 2), -1);
        BetweenThem six = Check.on("line 900;body 1;walker a 0 1;walker b 729 1;walker c 730 1;");
        Check.due("a third each time: the sixth", six.ends(0, 1, 2), 6);
        Check.due("a little more", six.ends(0, 2, 2), -1);
    }

    private static void wrongOnes() {
        BetweenThem x = Check.on("line 900;walker a 0 1;walker b 60 2;walker c 60 0;walker d 0 0;");
        int[][] wrong = {{-1, 1, 5}, {4, 1, 5}, {0, -1, 5}, {0, 4, 5}, {0, 0, 5}, {1, 2, 5}, {0, 3, 5}, {2, 3, 5},
            {0, 1, 2}, {1, 0, 2}, {0, 1, 1}, {0, 1, 0}, {0, 1, -7}, {0, 1, 100}, {0, 1, Integer.MAX_VALUE}};
        for (int[] a : wrong) {
            String told = a[0] + " " + a[1] + " " + a[2];
            Check.dueThrows("far " + told, () -> x.far(a[0], a[1], a[2], 0));
            Check.dueThrows("near " + told, () -> x.near(a[0], a[1], a[2], 1, 0));
            Check.dueThrows("ends " + told, () -> x.ends(a[0], a[1], a[2]));
        }
        for (int what : new int[] {-1, 2, Integer.MIN_VALUE}) {
            Check.dueThrows("far what", () -> x.far(0, 1, 5, what));
            Check.dueThrows("near what", () -> x.near(0, 1, 5, 1, what));
        }
        for (int n : new int[] {-1, 0, 7, Integer.MAX_VALUE}) {
            Check.dueThrows("near n", () -> x.near(0, 1, 5, n, 0));
        }
        Check.due("3 is above both", x.far(0, 1, 3, 0), 60);
        Check.due("99", x.far(0, 1, 99, 0), 1980);
    }
}
