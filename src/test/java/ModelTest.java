import java.util.NoSuchElementException;
import java.util.Random;

/** Runs of 512 calls by chance, always the same: each answer is the one that the Model gives. */
public final class ModelTest {
    private static final int RUNS = 300;
    private static final int CALLS = 512;
    private static final long THROWN = Long.MIN_VALUE;
    private static final String[] LAWS = {"other", "near", "last", "call"};
    private static final String[] ACTS = {"stops", "walks", "turns", "calls", "throws"};
    private static final String[] SNIPS = {"line", "body", "keeps", "walker", "back", "dog", "other", "near", "tires",
        "stops", "throws", "second", "or", "and", "not", "stands", "hangs", "sought", "by", "place", "pace", "visits",
        "number", ";", "<", "=", ">", "(", ")", "a", "b", "f", "rex", "pip", "0", "1", "9", "20", "100", "999", "1000",
        "$", " ", "\n", "zoe", "abcdefg", "abcdefgh", "a1", "1a", ".", "\t", "A"};

    private final BetweenThem x = new BetweenThem();
    private final Model m = new Model();
    private final Random r;
    private final StringBuilder story = new StringBuilder();
    private int calls;
    private boolean differs;

    private ModelTest(int seed) {
        r = new Random(seed);
    }

    public static void main(String[] args) {
        for (int seed = 0; seed < RUNS; seed++) {
            new ModelTest(seed).go();
        }
        Check.finish();
    }

    private interface Call {
        long answer();
    }

    private void same(String what, Call ours, Call models) {
        if (calls == CALLS) {
            return;
        }
        calls++;
        story.append(what).append('\n');
        long got = answer(ours);
        long want = answer(models);
        Check.due(what, got, want);
        if (got != want) {
            differs = true;
            System.out.println(story);
        }
    }

    private static long answer(Call call) {
        try {
            return call.answer();
        } catch (NoSuchElementException e) {
            return THROWN;
        }
    }

    private static int bit(boolean b) {
        return b ? 1 : 0;
    }

    private void go() {
        text(beach());
        if (r.nextInt(4) == 0) {
            nearTheEnd();
        }
        while (calls < CALLS && !differs) {
            int kind = r.nextInt(10);
            if (kind < 2) {
                texts();
            } else if (kind < 4) {
                acts();
            } else if (kind < 8) {
                asked();
            } else {
                all();
            }
        }
    }

    private void nearTheEnd() {
        for (int i = 0; i < 9; i++) {
            same("seconds 60", () -> x.seconds(60), () -> m.seconds(60));
        }
        int n = 45 + r.nextInt(15);
        same("seconds " + n, () -> x.seconds(n), () -> m.seconds(n));
        same("image 0", () -> bit(x.image(0)), () -> bit(m.image(0)));
    }

    /** A number of those told, sometimes one just beyond them or a wild one. */
    private int some(int low, int high) {
        int kind = r.nextInt(14);
        int[] edges = {low - 1, high + 1, low, high, Integer.MIN_VALUE, Integer.MAX_VALUE};
        return kind == 0 ? edges[r.nextInt(edges.length)] : low + r.nextInt(high - low + 1);
    }

    private int w() {
        return some(0, Math.max(0, m.state.men.size() - 1));
    }

    private int d() {
        return some(0, Math.max(0, m.state.hounds.size() - 1));
    }

    // ---- the tape

    private void put(byte[] bytes) {
        int had = m.count(5);
        for (int i = 0; i < bytes.length; i += 20) {
            int[] n = new int[5];
            for (int k = 0; k < 20; k++) {
                n[k / 4] = n[k / 4] << 8 | (i + k < bytes.length ? bytes[i + k] & 255 : 0);
            }
            same("feed", () -> x.feed(n[0], n[1], n[2], n[3], n[4]), () -> m.feed(n));
        }
        int n = had + bytes.length;
        same("end " + n, () -> bit(x.end(n)), () -> bit(m.end(n)));
    }

    private void text(String text) {
        put(text.getBytes(java.nio.charset.StandardCharsets.ISO_8859_1));
        story.append(text).append('\n');
        if (text.startsWith("line") || text.startsWith("walker")) {
            same("beach", x::beach, m::beach);
            same("fault", x::fault, m::fault);
        }
    }

    /** Some pieces of it left out, doubled or put in. */
    private String spoiled(String text) {
        StringBuilder s = new StringBuilder(text);
        for (int i = r.nextInt(3); i > 0; i--) {
            int at = r.nextInt(s.length() + 1);
            int kind = r.nextInt(4);
            if (kind == 0 && at < s.length()) {
                s.deleteCharAt(at);
            } else if (kind == 1) {
                s.insert(at, SNIPS[r.nextInt(SNIPS.length)]);
            } else if (kind == 2) {
                s.insert(at, " " + SNIPS[r.nextInt(SNIPS.length)] + " ");
            } else if (at < s.length()) {
                s.setCharAt(at, (char) ('0' + r.nextInt(75)));
            }
        }
        return s.toString();
    }

    private String cut(String s, int most) {
        return s.length() > most ? s.substring(0, most) : s;
    }

    private String beach() {
        StringBuilder s = new StringBuilder();
        int line = r.nextInt(3) == 0 ? some(1, 900) : 20 + r.nextInt(100);
        s.append("line ").append(Math.abs(line % 1000)).append(";");
        s.append(r.nextBoolean() ? "" : "body " + r.nextInt(10) + ";");
        s.append(r.nextInt(3) == 0 ? "" : "keeps " + (1 + r.nextInt(r.nextBoolean() ? 20 : 99)) + ";");
        int walkers = r.nextInt(8) == 0 ? r.nextInt(8) : 2 + r.nextInt(5);
        for (int w = 0; w < walkers; w++) {
            s.append("walker ").append((char) ('a' + w)).append(' ');
            s.append(r.nextInt(Math.max(1, Math.min(901, Math.abs(line % 1000) + 1)))).append(' ');
            s.append(r.nextInt(3) == 0 ? 0 : r.nextInt(10)).append(r.nextBoolean() ? " back;" : ";");
        }
        int dogs = r.nextInt(20) == 0 ? 3 : r.nextInt(3);
        for (int d = 0; d < dogs; d++) {
            String name = d == 0 ? "rex" : d == 1 ? "pip" : "max";
            s.append("dog ").append(name).append(' ').append((char) ('a' + r.nextInt(Math.max(1, walkers))));
            s.append(' ').append(1 + r.nextInt(30)).append(' ').append(r.nextInt(4) == 0 ? r.nextInt(10) : 0);
            s.append(' ').append(LAWS[r.nextInt(4)]).append(';');
            if (r.nextInt(3) == 0) {
                s.append("tires ").append(name).append(' ').append(1 + r.nextInt(20)).append(';');
            }
        }
        return s.toString();
    }

    private String log() {
        StringBuilder s = new StringBuilder();
        int lines = r.nextInt(12) == 0 ? 38 + r.nextInt(5) : r.nextInt(12);
        for (int i = 0; i < lines; i++) {
            if (r.nextInt(3) == 0) {
                s.append("second ").append(1 + r.nextInt(r.nextInt(3) == 0 ? 60 : 9)).append(';');
            } else {
                char name = (char) ('a' + r.nextInt(Math.max(1, m.state.men.size())));
                s.append(name).append(' ').append(ACTS[r.nextInt(5)]).append(';');
            }
        }
        return s.toString();
    }

    private String one(int depth) {
        int kind = r.nextInt(depth > 9 ? 8 : 12);
        char name = (char) ('a' + r.nextInt(Math.max(1, m.state.men.size())));
        char sign = "<=>".charAt(r.nextInt(3));
        switch (kind) {
            case 0: return "stands";
            case 1: return "hangs";
            case 2: return "sought";
            case 3: return "by " + name;
            case 4: return "place " + sign + r.nextInt(120);
            case 5: return "pace" + sign + r.nextInt(10);
            case 6: return "visits " + sign + " " + r.nextInt(8);
            case 7: return "number " + sign + r.nextInt(6);
            case 8: case 9: return "not " + one(depth + 1);
            default: return "(" + cond(depth + 1) + ")";
        }
    }

    private String cond(int depth) {
        StringBuilder s = new StringBuilder(one(depth));
        for (int i = r.nextInt(3); i > 0; i--) {
            s.append(r.nextBoolean() ? " and " : " or ").append(one(depth));
        }
        return s.toString();
    }

    private byte[] row(int most, int below) {
        byte[] row = new byte[r.nextInt(most + 1)];
        for (int i = 0; i < row.length; i++) {
            row[i] = (byte) r.nextInt(Math.max(1, below));
        }
        return row;
    }

    private void texts() {
        int empty = r.nextInt(20);
        if (empty > 0) {
            same("end 0", () -> bit(x.end(0)), () -> bit(m.end(0)));
        }
        int kind = r.nextInt(12);
        boolean good = r.nextInt(3) > 0;
        if (kind == 0) {
            String s = beach();
            put(cut(good ? s : spoiled(s), 930).getBytes(java.nio.charset.StandardCharsets.ISO_8859_1));
            same("beach " + s, x::beach, m::beach);
        } else if (kind < 4) {
            String s = log();
            put(cut(good ? s : spoiled(s), 500).getBytes(java.nio.charset.StandardCharsets.ISO_8859_1));
            int lives = some(0, 1);
            same("log " + lives + " " + s, () -> x.log(lives), () -> m.log(lives));
            for (int i = -1; i < 5; i++) {
                int what = i;
                same("logged " + what, () -> x.logged(what), () -> m.logged(what));
            }
        } else if (kind < 7) {
            String s = cond(1);
            put(cut(good ? s : spoiled(s), 300).getBytes(java.nio.charset.StandardCharsets.ISO_8859_1));
            same("sentence " + s, x::sentence, m::sentence);
        } else if (kind == 7) {
            printsByChance();
        } else if (kind < 10) {
            put(row(r.nextInt(4) == 0 ? 42 : 5, m.state.men.size()));
            int d = d();
            same("judge " + d, () -> x.judge(d), () -> m.judge(d));
        } else {
            lawsByChance();
        }
        same("fault", x::fault, m::fault);
        same("count 5", () -> x.count(5), () -> m.count(5));
    }

    private void printsByChance() {
        byte[] b = row(r.nextInt(4) == 0 ? 22 : 4, 256);
        for (int i = 0; i + 1 < b.length && !m.state.men.isEmpty(); i += 2) {
            if (r.nextInt(4) > 0) {
                b[i] = (byte) r.nextInt(20);
                Model.State s = m.state.copy();
                for (int k = 0; k < b[i]; k++) {
                    s.go();
                }
                b[i + 1] = (byte) (s.men.get(r.nextInt(s.men.size())).place / 4);
            }
        }
        put(b);
        same("prints", x::prints, m::prints);
    }

    private void lawsByChance() {
        int men = Math.max(1, m.state.men.size());
        byte[] b = row(r.nextInt(4) == 0 ? 42 : 6, men);
        for (int i = 1; i < b.length; i++) {
            if (b[i] == b[i - 1] || r.nextBoolean()) {
                b[i] = (byte) ((b[i - 1] + 1) % men);
            }
        }
        put(b);
        same("laws", x::laws, m::laws);
    }

    // ---- acts

    private void acts() {
        int w = w();
        int n = r.nextInt(3) == 0 ? some(1, 60) : some(1, 8);
        int seed = r.nextInt();
        int k = some(0, 1);
        switch (r.nextInt(14)) {
            case 0: same("stop " + w, () -> x.stop(w), () -> m.act("stops", w)); break;
            case 1: same("walk " + w, () -> x.walk(w), () -> m.act("walks", w)); break;
            case 2: same("turn " + w, () -> x.turn(w), () -> m.act("turns", w)); break;
            case 3: same("call " + w, () -> x.call(w), () -> m.act("calls", w)); break;
            case 4: same("throw " + w, () -> x.throwStick(w), () -> m.act("throws", w)); break;
            case 5: case 6: case 7: same("seconds " + n, () -> x.seconds(n), () -> m.seconds(n)); break;
            case 8: same("drawn " + n + " " + seed, () -> x.drawn(n, seed), () -> m.drawn(n, seed)); break;
            case 9: case 10: same("undo", x::undo, m::undo); break;
            case 11: same("image " + k, () -> bit(x.image(k)), () -> bit(m.image(k))); break;
            case 12: same("restore " + k, () -> bit(x.restore(k)), () -> bit(m.restore(k))); break;
            default: same("end " + n, () -> bit(x.end(n)), () -> bit(m.end(n))); break;
        }
    }

    // ---- questions

    private void asked() {
        int w = w();
        int v = w();
        int d = d();
        int n = some(1, 60);
        int what = some(0, 6);
        switch (r.nextInt(16)) {
            case 0: same("walker " + w + " " + what, () -> x.walker(w, what), () -> m.walker(w, what)); break;
            case 1: same("dog " + d + " " + what, () -> x.dog(d, what), () -> m.dog(d, what)); break;
            case 2: same("now " + what, () -> x.now(what), () -> m.now(what)); break;
            case 3: same("gap " + w + " " + v, () -> x.gap(w, v), () -> m.gap(w, v)); break;
            case 4: same("meet " + w + " " + v, () -> x.meet(w, v), () -> m.meet(w, v)); break;
            case 5: same("run " + d + " " + n, () -> x.run(d, n), () -> m.run(d, n)); break;
            case 6: same("turns " + d + " " + n, () -> x.turns(d, n), () -> m.turns(d, n)); break;
            case 7: same("next " + d, () -> x.next(d), () -> m.next(d)); break;
            case 8: same("said " + w + " " + v, () -> x.said(w, v), () -> m.said(w, v)); break;
            case 9: same("dearest", x::dearest, m::dearest); break;
            case 10: same("count " + what, () -> x.count(what), () -> m.count(what)); break;
            case 11: same("told " + (what - 1), () -> x.told(what - 1), () -> m.told(what - 1)); break;
            default: askedMore(w, v, d); break;
        }
    }

    private void askedMore(int w, int v, int d) {
        int u = r.nextBoolean() ? some(1, 99) : some(1, 12);
        int what = some(0, 1);
        int n = some(1, 6);
        int k = r.nextBoolean() ? some(0, 19) : some(0, 3);
        int many = some(1, 30);
        int seed = r.nextInt();
        switch (r.nextInt(11)) {
            case 0: same("far " + w + " " + v + " " + u, () -> x.far(w, v, u, what), () -> m.far(w, v, u, what)); break;
            case 1:
                same("near " + w + " " + v + " " + u, () -> x.near(w, v, u, n, what), () -> m.near(w, v, u, n, what));
                break;
            case 2: same("ends " + w + " " + v + " " + u, () -> x.ends(w, v, u), () -> m.ends(w, v, u)); break;
            case 3: same("round " + d, () -> x.round(d), () -> m.round(d)); break;
            case 4: same("circle " + d, () -> x.circle(d), () -> m.circle(d)); break;
            case 5: same("strays", x::strays, m::strays); break;
            case 6: same("least " + w + " " + d, () -> x.least(w, d), () -> m.least(w, d)); break;
            case 7: same("runs " + w + " " + d, () -> x.runs(w, d), () -> m.runs(w, d)); break;
            case 8: same("turned " + d + " " + k, () -> x.turned(d, k), () -> m.turned(d, k)); break;
            case 9: same("turnedAt " + d + " " + k, () -> x.turnedAt(d, k), () -> m.turnedAt(d, k)); break;
            default:
                same("odds " + w + " " + many, () -> x.odds(w, many, seed), () -> m.odds(w, many, seed));
                break;
        }
    }

    /** All that is so of one of them. */
    private void all() {
        int w = w();
        int d = d();
        for (int i = 0; i < 7; i++) {
            int what = i;
            if (r.nextBoolean()) {
                same("walker " + w + " " + what, () -> x.walker(w, what), () -> m.walker(w, what));
            } else {
                same("dog " + d + " " + what, () -> x.dog(d, what), () -> m.dog(d, what));
            }
        }
    }
}
