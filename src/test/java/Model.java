import java.math.BigInteger;
import java.util.ArrayList;
import java.util.Arrays;
import java.util.List;
import java.util.NoSuchElementException;
import java.util.TreeSet;

/**
 * The document once more, written as plainly as it can be and without a thought for room or speed: whole histories
 * are kept and looked through, all that is so is copied whole. The class must answer as this does.
 */
final class Model {
    static final int NONE = -1;

    static final class Man implements Cloneable {
        String name;
        int place;
        int pace;
        boolean back;
        boolean walks = true;
        boolean hangs;
        boolean moved;
        int went;
        /** For each second so far: was he seen in it. */
        List<Boolean> seen = new ArrayList<>();
        int visits;

        Man copy() {
            try {
                Man m = (Man) clone();
                m.seen = new ArrayList<>(seen);
                return m;
            } catch (CloneNotSupportedException e) {
                throw new IllegalStateException(e);
            }
        }
    }

    static final class Hound implements Cloneable {
        String name;
        int place;
        int pace;
        int pause;
        String law;
        int tires;
        int ran;
        int goal = NONE;
        int turning;
        /** All whom it saw, in order; ahead of them him where it was at first. */
        List<Integer> saw = new ArrayList<>();
        List<Integer> where = new ArrayList<>();

        Hound copy() {
            try {
                Hound h = (Hound) clone();
                h.saw = new ArrayList<>(saw);
                h.where = new ArrayList<>(where);
                return h;
            } catch (CloneNotSupportedException e) {
                throw new IllegalStateException(e);
            }
        }

        int turns() {
            return saw.size() - 1;
        }

        int last() {
            return saw.get(saw.size() - 1);
        }
    }

    /** All that is so, the BEACH with it. */
    static final class State {
        int line = 400;
        int body = 1;
        int keeps = NONE;
        int second;
        int stick = NONE;
        int caller = NONE;
        List<Man> men = new ArrayList<>();
        List<Hound> hounds = new ArrayList<>();

        State copy() {
            State s = new State();
            s.line = line;
            s.body = body;
            s.keeps = keeps;
            s.second = second;
            s.stick = stick;
            s.caller = caller;
            for (Man m : men) {
                s.men.add(m.copy());
            }
            for (Hound h : hounds) {
                s.hounds.add(h.copy());
            }
            return s;
        }

        int man(String name) {
            for (int i = 0; i < men.size(); i++) {
                if (men.get(i).name.equals(name)) {
                    return i;
                }
            }
            return NONE;
        }

        int hound(String name) {
            for (int i = 0; i < hounds.size(); i++) {
                if (hounds.get(i).name.equals(name)) {
                    return i;
                }
            }
            return NONE;
        }

        int apart(int w, int v) {
            return Math.abs(men.get(w).place - men.get(v).place);
        }

        int allTurns() {
            int sum = 0;
            for (Hound h : hounds) {
                sum += h.turns();
            }
            return sum;
        }

        boolean go() {
            if (second == 600) {
                return false;
            }
            for (Man m : men) {
                int before = m.place;
                for (int step = 0; step < m.pace && m.walks && !m.hangs; step++) {
                    int to = m.back ? m.place - 1 : m.place + 1;
                    if (to >= 0 && to <= line) {
                        m.place = to;
                        m.went++;
                    }
                }
                m.moved = before != m.place;
                m.seen.add(false);
            }
            for (Hound h : hounds) {
                go(h);
            }
            for (Man m : men) {
                hang(m);
            }
            second++;
            return true;
        }

        private void go(Hound h) {
            if (h.turning > 0) {
                h.turning--;
                return;
            }
            if (h.goal == NONE) {
                h.goal = choice(h, h.law);
            }
            if (h.goal == NONE) {
                return;
            }
            Man m = men.get(h.goal);
            for (int step = 0; step < h.pace && h.place != m.place; step++) {
                h.place += h.place < m.place ? 1 : -1;
                h.ran++;
            }
            if (h.place != m.place) {
                return;
            }
            m.visits++;
            m.seen.set(m.seen.size() - 1, true);
            if (stick == h.goal) {
                stick = NONE;
            }
            h.saw.add(h.goal);
            h.where.add(h.place);
            h.goal = NONE;
            h.turning = h.pause;
            if (h.tires > 0 && h.turns() % h.tires == 0) {
                h.pace = Math.max(1, h.pace - 1);
            }
        }

        private void hang(Man m) {
            if (m.seen.get(second)) {
                m.hangs = false;
            }
            if (keeps == NONE || m.seen.size() < keeps) {
                return;
            }
            if (!m.seen.subList(m.seen.size() - keeps, m.seen.size()).contains(true)) {
                m.hangs = true;
            }
        }

        int choice(Hound h, String law) {
            List<Integer> among = new ArrayList<>();
            for (int w = 0; w < men.size(); w++) {
                if (w != h.last()) {
                    among.add(w);
                }
            }
            if (among.isEmpty()) {
                return NONE;
            }
            if (among.contains(stick)) {
                return stick;
            }
            if (law.equals("call") && among.contains(caller)) {
                return caller;
            }
            if (law.equals("near")) {
                int best = among.get(0);
                for (int w : among) {
                    if (Math.abs(men.get(w).place - h.place) < Math.abs(men.get(best).place - h.place)) {
                        best = w;
                    }
                }
                return best;
            }
            if (law.equals("last")) {
                int best = among.get(0);
                for (int w : among) {
                    if (h.saw.lastIndexOf(w) < h.saw.lastIndexOf(best)) {
                        best = w;
                    }
                }
                return best;
            }
            return (h.last() + 1) % men.size();
        }

        int act(String how, int w) {
            Man m = men.get(w);
            switch (how) {
                case "stops":
                    if (!m.walks) {
                        return 1;
                    }
                    m.walks = false;
                    return 0;
                case "walks":
                    if (m.walks) {
                        return 1;
                    }
                    m.walks = true;
                    return 0;
                case "turns":
                    m.back = !m.back;
                    return 0;
                case "calls":
                    caller = w;
                    return 0;
                default:
                    if (stick == w) {
                        return 1;
                    }
                    stick = w;
                    return 0;
            }
        }

        int drawn(int n, int seed) {
            int x = seed;
            int went = 0;
            for (; went < n && second < 600; went++) {
                for (int w = 0; w < men.size(); w++) {
                    x = (int) (x * 1103515245L + 12345L);
                    long draw = ((x & 0xFFFFFFFFL) >> 8) % 12;
                    if (draw == 0) {
                        act(men.get(w).walks ? "stops" : "walks", w);
                    } else if (draw < 4) {
                        act(draw == 1 ? "turns" : draw == 2 ? "calls" : "throws", w);
                    }
                }
                go();
            }
            return went;
        }
    }

    List<Integer> tape = new ArrayList<>();
    State state = new State();
    ModelText.Cond said;
    List<State> past = new ArrayList<>();
    State[] imageStates = new State[2];
    ModelText.Cond[] imageSaid = new ModelText.Cond[2];
    int faultKind;
    int[] logged;

    private boolean isMan(int w) {
        return w >= 0 && w < state.men.size();
    }

    private boolean isHound(int d) {
        return d >= 0 && d < state.hounds.size();
    }

    private void keepPast() {
        past.add(state.copy());
        if (past.size() > 8) {
            past.remove(0);
        }
    }

    private int[] emptied() {
        int[] bytes = new int[tape.size()];
        for (int i = 0; i < bytes.length; i++) {
            bytes[i] = tape.get(i);
        }
        tape.clear();
        return bytes;
    }

    int feed(int... five) {
        if (tape.size() > 920) {
            return NONE;
        }
        for (int n : five) {
            for (byte b : java.nio.ByteBuffer.allocate(4).putInt(n).array()) {
                tape.add(b & 255);
            }
        }
        return tape.size();
    }

    boolean end(int n) {
        if (n < 0 || n > tape.size()) {
            return false;
        }
        tape = new ArrayList<>(tape.subList(0, n));
        return true;
    }

    int beach() {
        try {
            faultKind = 0;
            ModelText t = new ModelText(emptied(), 900);
            state = t.beach();
            said = null;
            past.clear();
            return t.lines;
        } catch (ModelText.Fault f) {
            faultKind = f.kind;
            return -1 - f.place;
        }
    }

    int fault() {
        return faultKind;
    }

    int walker(int w, int what) {
        if (!isMan(w) || what < 0 || what > 6) {
            throw new NoSuchElementException();
        }
        Man m = state.men.get(w);
        return new int[] {m.place, m.pace, bit(m.back), bit(m.walks), bit(m.hangs), m.visits, m.went}[what];
    }

    private static int bit(boolean b) {
        return b ? 1 : 0;
    }

    int dog(int d, int what) {
        if (!isHound(d) || what < 0 || what > 6) {
            throw new NoSuchElementException();
        }
        Hound h = state.hounds.get(d);
        return new int[] {h.place, h.pace, h.ran, h.turns(), h.goal, h.turning, h.last()}[what];
    }

    int now(int what) {
        int hanging = 0;
        int walking = 0;
        for (int w = 0; w < state.men.size(); w++) {
            hanging += state.men.get(w).hangs ? 1 << w : 0;
            walking += state.men.get(w).walks ? 1 << w : 0;
        }
        int[] all = {state.second, state.stick, state.caller, hanging, walking, state.allTurns()};
        return what >= 0 && what < all.length ? all[what] : NONE;
    }

    int act(String how, int w) {
        if (!isMan(w)) {
            return NONE;
        }
        State before = state.copy();
        int why = state.act(how, w);
        if (why == 0) {
            State after = state;
            state = before;
            keepPast();
            state = after;
        }
        return why;
    }

    int seconds(int n) {
        if (n < 1 || n > 60) {
            return NONE;
        }
        if (state.second == 600) {
            return 0;
        }
        keepPast();
        int went = 0;
        while (went < n && state.go()) {
            went++;
        }
        return went;
    }

    int undo() {
        if (past.isEmpty()) {
            return NONE;
        }
        state = past.remove(past.size() - 1);
        return past.size();
    }

    int gap(int w, int v) {
        return isMan(w) && isMan(v) ? state.apart(w, v) : NONE;
    }

    int meet(int w, int v) {
        if (!isMan(w) || !isMan(v) || w == v) {
            return NONE;
        }
        State s = state.copy();
        do {
            if (s.apart(w, v) <= s.body) {
                return s.second;
            }
        } while (s.second < state.second + 300 && s.go());
        return NONE;
    }

    private State after(int n) {
        State s = state.copy();
        for (int i = 0; i < n; i++) {
            s.go();
        }
        return s;
    }

    int run(int d, int n) {
        return !isHound(d) || n < 1 || n > 60 ? NONE : after(n).hounds.get(d).ran - state.hounds.get(d).ran;
    }

    int turns(int d, int n) {
        return !isHound(d) || n < 1 || n > 60 ? NONE : after(n).hounds.get(d).turns() - state.hounds.get(d).turns();
    }

    int next(int d) {
        return isHound(d) ? state.choice(state.hounds.get(d), state.hounds.get(d).law) : NONE;
    }

    int said(int w, int v) {
        if (!isMan(w) || !isMan(v)) {
            return NONE;
        }
        int often = 0;
        for (Hound h : state.hounds) {
            for (int i = 1; i < h.saw.size(); i++) {
                often += h.saw.get(i - 1) == w && h.saw.get(i) == v ? 1 : 0;
            }
        }
        return often;
    }

    int dearest() {
        int best = NONE;
        for (int w = 0; w < state.men.size(); w++) {
            for (int v = w + 1; v < state.men.size(); v++) {
                int both = said(w, v) + said(v, w);
                if (both > 0 && (best == NONE || both > said(best / 10, best % 10) + said(best % 10, best / 10))) {
                    best = 10 * w + v;
                }
            }
        }
        return best;
    }

    private void needTwo(int w, int v, int u) {
        if (!isMan(w) || !isMan(v) || u < 1 || u > 99) {
            throw new NoSuchElementException();
        }
        int a = state.men.get(w).pace;
        int b = state.men.get(v).pace;
        if (a == 0 && b == 0 || u <= Math.max(a, b) || state.apart(w, v) == 0) {
            throw new NoSuchElementException();
        }
    }

    private static long told(BigInteger above, BigInteger below, int what) {
        if (what != 0 && what != 1) {
            throw new NoSuchElementException();
        }
        BigInteger shared = above.gcd(below);
        return (what == 0 ? above : below).divide(shared).longValueExact();
    }

    int far(int w, int v, int u, int what) {
        needTwo(w, v, u);
        int together = state.men.get(w).pace + state.men.get(v).pace;
        return (int) told(BigInteger.valueOf((long) u * state.apart(w, v)), BigInteger.valueOf(together), what);
    }

    private BigInteger[] apartAt(int w, int v, int u, int n) {
        BigInteger above = BigInteger.valueOf(state.apart(w, v));
        BigInteger below = BigInteger.ONE;
        int from = w;
        int to = v;
        for (int i = 0; i < n; i++) {
            above = above.multiply(BigInteger.valueOf(u - state.men.get(from).pace));
            below = below.multiply(BigInteger.valueOf(u + state.men.get(to).pace));
            int other = from;
            from = to;
            to = other;
        }
        return new BigInteger[] {above, below};
    }

    long near(int w, int v, int u, int n, int what) {
        needTwo(w, v, u);
        if (n < 1 || n > 6) {
            throw new NoSuchElementException();
        }
        BigInteger[] part = apartAt(w, v, u, n);
        return told(part[0], part[1], what);
    }

    int ends(int w, int v, int u) {
        needTwo(w, v, u);
        for (int n = 1; n <= 6; n++) {
            BigInteger[] part = apartAt(w, v, u, n);
            if (part[0].compareTo(part[1].multiply(BigInteger.valueOf(state.body))) <= 0) {
                return n;
            }
        }
        return NONE;
    }

    /** Many more turns than any round has, from now on. */
    private List<Integer> manyTurns(int d) {
        State s = state.copy();
        s.caller = NONE;
        s.stick = NONE;
        Hound h = s.hounds.get(d);
        List<Integer> many = new ArrayList<>();
        for (int i = 0; i < 200; i++) {
            h.place = s.men.get(h.last()).place;
            int whom = s.choice(h, h.law);
            if (whom == NONE) {
                return many;
            }
            h.saw.add(whom);
            many.add(whom);
        }
        return many.subList(100, 200);
    }

    int round(int d) {
        if (!isHound(d) || manyTurns(d).isEmpty()) {
            return NONE;
        }
        List<Integer> row = manyTurns(d);
        for (int period = 1; period < row.size(); period++) {
            if (row.subList(period, row.size()).equals(row.subList(0, row.size() - period))) {
                return period;
            }
        }
        return NONE;
    }

    int circle(int d) {
        if (!isHound(d) || manyTurns(d).isEmpty()) {
            return NONE;
        }
        int bits = 0;
        for (int w : new TreeSet<>(manyTurns(d))) {
            bits += 1 << w;
        }
        return bits;
    }

    int strays() {
        State s = state.copy();
        for (int i = 0; i < 200; i++) {
            int second = s.second;
            if (!s.go()) {
                return NONE;
            }
            for (Man m : s.men) {
                if (m.hangs) {
                    return second;
                }
            }
        }
        return NONE;
    }

    private int ranBy(int w, int d, int stop) {
        State s = state.copy();
        for (int i = 0; i < 40; i++) {
            if (i >= stop) {
                s.men.get(w).walks = false;
            }
            s.go();
        }
        return s.hounds.get(d).ran - state.hounds.get(d).ran;
    }

    int least(int w, int d) {
        if (!isMan(w) || !isHound(d)) {
            return NONE;
        }
        int best = 30;
        for (int s = 29; s >= 0; s--) {
            if (ranBy(w, d, s) <= ranBy(w, d, best)) {
                best = s;
            }
        }
        return best;
    }

    int runs(int w, int d) {
        return isMan(w) && isHound(d) ? ranBy(w, d, least(w, d)) : NONE;
    }

    int prints() {
        int[] b = emptied();
        if (b.length % 2 == 1 || b.length == 0 || b.length > 20) {
            return NONE;
        }
        int bits = 0;
        for (int w = 0; w < state.men.size(); w++) {
            boolean his = true;
            for (int i = 0; i < b.length; i += 2) {
                int place = after(b[i]).men.get(w).place;
                his &= state.second + b[i] <= 600 && place >= 4 * b[i + 1] && place <= 4 * b[i + 1] + 3;
            }
            bits += his ? 1 << w : 0;
        }
        return bits;
    }

    private boolean areMen(int[] b) {
        for (int w : b) {
            if (!isMan(w)) {
                return false;
            }
        }
        return true;
    }

    int judge(int d) {
        int[] b = emptied();
        if (!isHound(d) || b.length < 1 || b.length > 40 || !areMen(b)) {
            return -2;
        }
        int had = state.hounds.get(d).saw.size();
        List<Integer> saw = after(300).hounds.get(d).saw;
        for (int i = 0; i < b.length; i++) {
            if (had + i >= saw.size() || saw.get(had + i) != b[i]) {
                return i;
            }
        }
        return NONE;
    }

    int laws() {
        int[] b = emptied();
        if (b.length < 2 || b.length > 40 || !areMen(b)) {
            return NONE;
        }
        int bits = 7;
        String[] laws = {"other", "near", "last"};
        for (int i = 1; i < b.length; i++) {
            if (b[i] == b[i - 1]) {
                return NONE;
            }
            for (int k = 0; k < laws.length; k++) {
                State s = state.copy();
                s.stick = NONE;
                s.caller = NONE;
                Hound h = new Hound();
                for (int w : Arrays.copyOf(b, i)) {
                    h.saw.add(w);
                    h.place = s.men.get(w).place;
                }
                if (s.choice(h, laws[k]) != b[i]) {
                    bits &= ~(1 << k);
                }
            }
        }
        return bits;
    }

    int turned(int d, int k) {
        if (!isHound(d) || k < 0 || k >= 20 || k >= state.hounds.get(d).turns()) {
            return NONE;
        }
        List<Integer> saw = state.hounds.get(d).saw;
        return saw.get(saw.size() - 1 - k);
    }

    int turnedAt(int d, int k) {
        if (turned(d, k) == NONE) {
            return NONE;
        }
        List<Integer> where = state.hounds.get(d).where;
        return where.get(where.size() - 1 - k);
    }

    int drawn(int n, int seed) {
        if (n < 1 || n > 60 || state.men.isEmpty()) {
            return NONE;
        }
        if (state.second == 600) {
            return 0;
        }
        keepPast();
        return state.drawn(n, seed);
    }

    int odds(int w, int n, int seed) {
        if (!isMan(w) || n < 1 || n > 30) {
            return NONE;
        }
        int often = 0;
        for (int i = 0; i < n; i++) {
            State s = state.copy();
            s.drawn(30, seed + i);
            often += s.men.get(w).visits > state.men.get(w).visits ? 1 : 0;
        }
        return often;
    }

    int log(int lives) {
        if (lives != 0 && lives != 1) {
            return -1000;
        }
        try {
            faultKind = 0;
            List<ModelText.Line> lines = new ModelText(emptied(), 400).log(state);
            State s = state.copy();
            int why = 0;
            int good = 0;
            while (good < lines.size() && why == 0) {
                why = live(s, lines.get(good));
                good += why == 0 ? 1 : 0;
            }
            logged = new int[] {why, good, s.second, s.allTurns() - state.allTurns()};
            if (lives == 1) {
                keepPast();
                state = s;
            }
            return why == 0 ? NONE : good;
        } catch (ModelText.Fault f) {
            faultKind = f.kind;
            return -2 - f.place;
        }
    }

    private static int live(State s, ModelText.Line line) {
        if (line.how.equals("second")) {
            if (s.second + line.number > 600) {
                return 41;
            }
            for (int i = 0; i < line.number; i++) {
                s.go();
            }
            return 0;
        }
        int why = s.act(line.how, line.number);
        return why == 0 ? 0 : line.how.equals("stops") ? 1 : line.how.equals("walks") ? 11 : 21;
    }

    int logged(int what) {
        return logged == null || what < 0 || what > 3 ? NONE : logged[what];
    }

    int sentence() {
        try {
            faultKind = 0;
            ModelText t = new ModelText(emptied(), 200);
            said = t.sentence(state);
            return t.ones;
        } catch (ModelText.Fault f) {
            faultKind = f.kind;
            return -1 - f.place;
        }
    }

    int told(int k) {
        if (said == null) {
            return NONE;
        }
        List<Integer> men = new ArrayList<>();
        for (int w = 0; w < state.men.size(); w++) {
            if (said.holds(state, w)) {
                men.add(w);
            }
        }
        return k == NONE ? men.size() : k >= 0 && k < men.size() ? men.get(k) : NONE;
    }

    boolean image(int k) {
        if (k != 0 && k != 1) {
            return false;
        }
        imageStates[k] = state.copy();
        imageSaid[k] = said;
        return true;
    }

    boolean restore(int k) {
        if (k != 0 && k != 1 || imageStates[k] == null) {
            return false;
        }
        state = imageStates[k].copy();
        said = imageSaid[k];
        past.clear();
        return true;
    }

    int count(int what) {
        int[] all = {state.men.size(), state.hounds.size(), state.line, state.body, state.keeps, tape.size()};
        return what >= 0 && what < all.length ? all[what] : NONE;
    }
}
