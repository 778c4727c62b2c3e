import java.util.NoSuchElementException;

/** What the tests share: texts and bytes put on the tape, answers compared. */
final class Check {
    private static int wrong = 0;
    private static int asked = 0;
    private static String sentence = "";

    /** The sentence of the document that the answers behind it are asked for. */
    static void about(String words) {
        sentence = "[" + words + "] ";
    }

    static void due(String what, long got, long want) {
        asked++;
        if (got != want) {
            wrong++;
            System.out.println(sentence + what + " answered " + got + ", due is " + want);
        }
    }

    static void due(String what, boolean got, boolean want) {
        due(what, got ? 1 : 0, want ? 1 : 0);
    }

    interface Call {
        long answer();
    }

    static void dueThrows(String what, Call call) {
        asked++;
        try {
            long got = call.answer();
            wrong++;
            System.out.println(sentence + what + " answered " + got + ", due is NoSuchElementException");
        } catch (NoSuchElementException e) {
            return;
        }
    }

    static void put(BetweenThem x, byte[] bytes) {
        int before = x.count(5);
        for (int i = 0; i < bytes.length; i += 20) {
            int[] n = new int[5];
            for (int k = 0; k < 20; k++) {
                int b = i + k < bytes.length ? bytes[i + k] & 255 : 0;
                n[k / 4] = n[k / 4] << 8 | b;
            }
            if (x.feed(n[0], n[1], n[2], n[3], n[4]) == BetweenThem.NONE) {
                throw new IllegalStateException("the test's text is too long for the tape");
            }
        }
        if (!x.end(before + bytes.length)) {
            throw new IllegalStateException("the tape has fewer bytes than were fed");
        }
    }

    static void text(BetweenThem x, String text) {
        put(x, text.getBytes(java.nio.charset.StandardCharsets.ISO_8859_1));
    }

    static void bytes(BetweenThem x, int... numbers) {
        byte[] b = new byte[numbers.length];
        for (int i = 0; i < b.length; i++) {
            b[i] = (byte) numbers[i];
        }
        put(x, b);
    }

    static int beach(BetweenThem x, String text) {
        text(x, text);
        return x.beach();
    }

    static int log(BetweenThem x, int lives, String text) {
        text(x, text);
        return x.log(lives);
    }

    static int sentence(BetweenThem x, String text) {
        text(x, text);
        return x.sentence();
    }

    static BetweenThem on(String text) {
        BetweenThem x = new BetweenThem();
        int lines = beach(x, text);
        if (lines < 0) {
            throw new IllegalStateException("the test's beach has a fault: " + lines + " in " + text);
        }
        return x;
    }

    static void pass(BetweenThem x, int n) {
        for (int left = n; left > 0; left -= Math.min(left, 60)) {
            x.seconds(Math.min(left, 60));
        }
    }

    static String blanks(int n) {
        return " ".repeat(n);
    }

    static void finish() {
        sentence = "";
        System.out.println(asked + " asked, " + wrong + " wrong");
        if (wrong != 0) {
            System.exit(1);
        }
    }

    private Check() {
    }
}
