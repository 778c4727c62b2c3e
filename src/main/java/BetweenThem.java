import java.util.NoSuchElementException;

/** A beach: walkers on a line, and dogs that run to and fro between them. */
public final class BetweenThem {
    public static final int NONE = -1;

    private static final int MOST_TAPE = 940;
    private static final int MOST_BEACH = 900;
    private static final int MOST_LOG = 400;
    private static final int MOST_SENTENCE = 200;

    private static final int MOST_WALKERS = 6;
    private static final int MOST_DOGS = 2;
    private static final int MOST_LINES = 40;
    private static final int MOST_ONES = 20;
    private static final int MOST_WITHIN = 8;
    private static final int MOST_KEPT = 8;
    private static final int MOST_TURNS_TOLD = 20;
    private static final int IMAGES = 2;

    private static final int ALL_SECONDS = 600;
    private static final int MOST_SECONDS = 60;
    private static final int MEET_SECONDS = 300;
    private static final int STRAY_SECONDS = 200;
    private static final int JUDGE_SECONDS = 300;
    private static final int LEAST_SECONDS = 40;
    private static final int LATEST_STOP = 30;
    private static final int ODDS_SECONDS = 30;
    private static final int MOST_SEEDS = 30;
    private static final int MOST_PRINTS = 10;
    private static final int MOST_TOLD_TURNS = 40;
    private static final int MOST_PACE_BETWEEN = 99;
    private static final int MOST_TURNS_BETWEEN = 6;

    private static final int FAULT_TOKEN = 1;
    private static final int FAULT_NUMBER = 2;
    private static final int FAULT_NAME = 3;
    private static final int FAULT_MANY = 4;

    private static final int LAW_OTHER = 0;
    private static final int LAW_NEAR = 1;
    private static final int LAW_LAST = 2;
    private static final int LAW_CALL = 3;

    private static final int NEVER_SEEN = -2;
    private static final int SEEN_AT_FIRST = -1;

    private static final Word[] WORDS = Word.values();

    private final Tape tape;
    private final World world;
    private final World[] images;
    private final boolean[] imageKept;
    private final History history;
    private final Plan planRead;
    private final Saying sayingRead;
    private final Script script;
    private final Scene trial;
    private final Part part;
    private int faultKind;

    public BetweenThem() {
        tape = new Tape();
        world = new World();
        images = new World[IMAGES];
        for (int k = 0; k < IMAGES; k++) {
            images[k] = new World();
        }
        imageKept = new boolean[IMAGES];
        history = new History();
        planRead = new Plan();
        sayingRead = new Saying();
        script = new Script();
        trial = new Scene();
        part = new Part();
    }

    // ---- the tape and the texts on it

    public int feed(int a, int b, int c, int d, int e) {
        if (tape.length + 20 > MOST_TAPE) {
            return NONE;
        }
        tape.append(a);
        tape.append(b);
        tape.append(c);
        tape.append(d);
        tape.append(e);
        return tape.length;
    }

    public boolean end(int n) {
        if (n < 0 || n > tape.length) {
            return false;
        }
        tape.length = n;
        return true;
    }

    public int beach() {
        boolean good = planRead.read(tape);
        tape.length = 0;
        faultKind = tape.fault;
        if (!good) {
            return -1 - tape.faultPlace;
        }
        world.plan.copyFrom(planRead);
        world.scene.begin(planRead);
        world.saying.forget();
        history.forget();
        return planRead.lines;
    }

    public int fault() {
        return faultKind;
    }

    public int sentence() {
        boolean good = sayingRead.read(tape, world.plan);
        tape.length = 0;
        faultKind = tape.fault;
        if (!good) {
            return -1 - tape.faultPlace;
        }
        world.saying.copyFrom(sayingRead);
        return sayingRead.ones;
    }

    public int told(int k) {
        if (world.saying.ones == 0) {
            return NONE;
        }
        int bits = world.saying.saidOf(world.plan, world.scene);
        if (k == NONE) {
            return Integer.bitCount(bits);
        }
        int ahead = 0;
        for (int w = 0; w < world.plan.walkers; w++) {
            if ((bits >> w & 1) != 0) {
                if (ahead == k) {
                    return w;
                }
                ahead++;
            }
        }
        return NONE;
    }

    public int log(int lives) {
        if (lives != 0 && lives != 1) {
            return -1000;
        }
        boolean good = script.read(tape, world.plan);
        tape.length = 0;
        faultKind = tape.fault;
        if (!good) {
            return -2 - tape.faultPlace;
        }
        int wrong = script.play(world.plan, foreseen());
        if (lives == 1) {
            history.keep(world.scene);
            world.scene.copyFrom(trial);
        }
        return wrong;
    }

    public int logged(int what) {
        if (!script.played) {
            return NONE;
        }
        switch (what) {
            case 0:
                return script.why;
            case 1:
                return script.good;
            case 2:
                return script.secondThen;
            case 3:
                return script.turnsIn;
            default:
                return NONE;
        }
    }

    // ---- what is so

    public int walker(int w, int what) throws NoSuchElementException {
        if (!isWalker(w) || what < 0 || what > 6) {
            throw new NoSuchElementException();
        }
        Walker walker = world.scene.walkers[w];
        switch (what) {
            case 0:
                return walker.place;
            case 1:
                return world.plan.pace[w];
            case 2:
                return walker.back ? 1 : 0;
            case 3:
                return walker.walks ? 1 : 0;
            case 4:
                return walker.hangs ? 1 : 0;
            case 5:
                return walker.visits;
            default:
                return walker.went;
        }
    }

    public int dog(int d, int what) throws NoSuchElementException {
        if (!isDog(d) || what < 0 || what > 6) {
            throw new NoSuchElementException();
        }
        Dog dog = world.scene.dogs[d];
        switch (what) {
            case 0:
                return dog.place;
            case 1:
                return dog.pace;
            case 2:
                return dog.ran;
            case 3:
                return dog.turnCount;
            case 4:
                return dog.goal;
            case 5:
                return dog.pause;
            default:
                return dog.latest;
        }
    }

    public int now(int what) {
        switch (what) {
            case 0:
                return world.scene.second;
            case 1:
                return world.scene.stick;
            case 2:
                return world.scene.caller;
            case 3:
                return world.scene.hangingBits();
            case 4:
                return world.scene.walkingBits(world.plan.walkers);
            case 5:
                return world.scene.allTurns();
            default:
                return NONE;
        }
    }

    public int count(int what) {
        switch (what) {
            case 0:
                return world.plan.walkers;
            case 1:
                return world.plan.dogs;
            case 2:
                return world.plan.line;
            case 3:
                return world.plan.body;
            case 4:
                return world.plan.keeps;
            case 5:
                return tape.length;
            default:
                return NONE;
        }
    }

    public int gap(int w, int v) {
        if (!isWalker(w) || !isWalker(v)) {
            return NONE;
        }
        return world.scene.apart(w, v);
    }

    public int said(int w, int v) {
        if (!isWalker(w) || !isWalker(v)) {
            return NONE;
        }
        return world.scene.behind[w * MOST_WALKERS + v];
    }

    public int dearest() {
        int[] behind = world.scene.behind;
        int most = 0;
        int pair = NONE;
        for (int w = 0; w < world.plan.walkers; w++) {
            for (int v = w + 1; v < world.plan.walkers; v++) {
                int both = behind[w * MOST_WALKERS + v] + behind[v * MOST_WALKERS + w];
                if (both > most) {
                    most = both;
                    pair = 10 * w + v;
                }
            }
        }
        return pair;
    }

    public int turned(int d, int k) {
        return isDog(d) ? world.scene.dogs[d].seenBefore(k) : NONE;
    }

    public int turnedAt(int d, int k) {
        return isDog(d) ? world.scene.dogs[d].placeBefore(k) : NONE;
    }

    // ---- what is done

    public int stop(int w) {
        return act(Word.STOPS, w);
    }

    public int walk(int w) {
        return act(Word.WALKS, w);
    }

    public int turn(int w) {
        return act(Word.TURNS, w);
    }

    public int call(int w) {
        return act(Word.CALLS, w);
    }

    public int throwStick(int w) {
        return act(Word.THROWS, w);
    }

    public int seconds(int n) {
        if (n < 1 || n > MOST_SECONDS) {
            return NONE;
        }
        int left = Math.min(n, ALL_SECONDS - world.scene.second);
        if (left > 0) {
            history.keep(world.scene);
            world.scene.passMany(world.plan, left);
        }
        return left;
    }

    public int drawn(int n, int seed) {
        if (n < 1 || n > MOST_SECONDS || world.plan.walkers == 0) {
            return NONE;
        }
        int left = Math.min(n, ALL_SECONDS - world.scene.second);
        if (left > 0) {
            history.keep(world.scene);
            world.scene.passDrawn(world.plan, left, seed);
        }
        return left;
    }

    public int undo() {
        if (history.kept == 0) {
            return NONE;
        }
        history.giveBack(world.scene);
        return history.kept;
    }

    public boolean image(int k) {
        if (k < 0 || k >= IMAGES) {
            return false;
        }
        images[k].copyFrom(world);
        imageKept[k] = true;
        return true;
    }

    public boolean restore(int k) {
        if (k < 0 || k >= IMAGES || !imageKept[k]) {
            return false;
        }
        world.copyFrom(images[k]);
        history.forget();
        return true;
    }

    // ---- what would be, if nothing is done

    public int meet(int w, int v) {
        if (!isWalker(w) || !isWalker(v) || w == v) {
            return NONE;
        }
        Scene then = foreseen();
        for (int i = 0; i <= MEET_SECONDS; i++) {
            if (then.apart(w, v) <= world.plan.body) {
                return then.second;
            }
            if (!then.pass(world.plan)) {
                return NONE;
            }
        }
        return NONE;
    }

    public int run(int d, int n) {
        if (!isDog(d) || n < 1 || n > MOST_SECONDS) {
            return NONE;
        }
        Scene then = foreseen();
        then.passMany(world.plan, n);
        return then.dogs[d].ran - world.scene.dogs[d].ran;
    }

    public int turns(int d, int n) {
        if (!isDog(d) || n < 1 || n > MOST_SECONDS) {
            return NONE;
        }
        Scene then = foreseen();
        then.passMany(world.plan, n);
        return then.dogs[d].turnCount - world.scene.dogs[d].turnCount;
    }

    public int next(int d) {
        if (!isDog(d)) {
            return NONE;
        }
        return world.scene.choice(world.plan.walkers, world.scene.dogs[d], world.plan.law[d]);
    }

    public int strays() {
        Scene then = foreseen();
        for (int i = 0; i < STRAY_SECONDS; i++) {
            if (!then.pass(world.plan)) {
                return NONE;
            }
            if (then.hangingBits() != 0) {
                return then.second - 1;
            }
        }
        return NONE;
    }

    public int least(int w, int d) {
        if (!isWalker(w) || !isDog(d)) {
            return NONE;
        }
        return leastStop(w, d);
    }

    public int runs(int w, int d) {
        if (!isWalker(w) || !isDog(d)) {
            return NONE;
        }
        return ranIfStopped(w, d, leastStop(w, d));
    }

    public int odds(int w, int n, int seed) {
        if (!isWalker(w) || n < 1 || n > MOST_SEEDS) {
            return NONE;
        }
        int often = 0;
        for (int i = 0; i < n; i++) {
            Scene then = foreseen();
            then.passDrawn(world.plan, ODDS_SECONDS, seed + i);
            if (then.walkers[w].visits > world.scene.walkers[w].visits) {
                often++;
            }
        }
        return often;
    }

    // ---- what is asked by bytes on the tape

    public int prints() {
        int bits = leftPrints();
        tape.length = 0;
        return bits;
    }

    public int judge(int d) {
        int first = isDog(d) ? firstFalseTurn(d) : -2;
        tape.length = 0;
        return first;
    }

    public int laws() {
        int bits = areTurns() ? fittingLaws() : NONE;
        tape.length = 0;
        return bits;
    }

    // ---- two who go toward one another, and the round of a dog

    public int far(int w, int v, int u, int what) throws NoSuchElementException {
        if (!areTwo(w, v, u) || what < 0 || what > 1) {
            throw new NoSuchElementException();
        }
        part.begin(u * world.scene.apart(w, v));
        part.times(1, world.plan.pace[w] + world.plan.pace[v]);
        return (int) (what == 0 ? part.above : part.below);
    }

    public long near(int w, int v, int u, int n, int what) throws NoSuchElementException {
        if (!areTwo(w, v, u) || n < 1 || n > MOST_TURNS_BETWEEN || what < 0 || what > 1) {
            throw new NoSuchElementException();
        }
        part.begin(world.scene.apart(w, v));
        for (int i = 1; i <= n; i++) {
            shrink(w, v, u, i);
        }
        return what == 0 ? part.above : part.below;
    }

    public int ends(int w, int v, int u) throws NoSuchElementException {
        if (!areTwo(w, v, u)) {
            throw new NoSuchElementException();
        }
        part.begin(world.scene.apart(w, v));
        for (int i = 1; i <= MOST_TURNS_BETWEEN; i++) {
            shrink(w, v, u, i);
            if (part.above <= world.plan.body * part.below) {
                return i;
            }
        }
        return NONE;
    }

    public int round(int d) {
        return hasRound(d) ? Integer.bitCount(roundBits(d)) : NONE;
    }

    public int circle(int d) {
        return hasRound(d) ? roundBits(d) : NONE;
    }

    // ---- what the calls share

    private boolean isWalker(int w) {
        return w >= 0 && w < world.plan.walkers;
    }

    private boolean isDog(int d) {
        return d >= 0 && d < world.plan.dogs;
    }

    private int act(Word deed, int w) {
        if (!isWalker(w)) {
            return NONE;
        }
        int why = world.scene.whyNot(deed, w);
        if (why == 0) {
            history.keep(world.scene);
            world.scene.perform(deed, w);
        }
        return why;
    }

    private Scene foreseen() {
        trial.copyFrom(world.scene);
        return trial;
    }

    private int leastStop(int w, int d) {
        int best = 0;
        int bestRan = ranIfStopped(w, d, 0);
        for (int s = 1; s <= LATEST_STOP; s++) {
            int ran = ranIfStopped(w, d, s);
            if (ran < bestRan) {
                best = s;
                bestRan = ran;
            }
        }
        return best;
    }

    private int ranIfStopped(int w, int d, int s) {
        Scene then = foreseen();
        for (int i = 0; i < LEAST_SECONDS; i++) {
            if (i == s) {
                then.walkers[w].walks = false;
            }
            then.pass(world.plan);
        }
        return then.dogs[d].ran - world.scene.dogs[d].ran;
    }

    private int leftPrints() {
        int pairs = tape.length / 2;
        if (tape.length % 2 != 0 || pairs < 1 || pairs > MOST_PRINTS) {
            return NONE;
        }
        int latest = 0;
        for (int i = 0; i < pairs; i++) {
            latest = Math.max(latest, tape.at(2 * i));
        }
        int bits = (1 << world.plan.walkers) - 1;
        Scene then = foreseen();
        for (int after = 0; after <= latest; after++) {
            for (int i = 0; i < pairs; i++) {
                if (tape.at(2 * i) == after) {
                    bits &= standingBy(then, tape.at(2 * i + 1), after);
                }
            }
            then.pass(world.plan);
        }
        return bits;
    }

    private int standingBy(Scene then, int quarter, int after) {
        if (world.scene.second + after > ALL_SECONDS) {
            return 0;
        }
        int bits = 0;
        for (int w = 0; w < world.plan.walkers; w++) {
            if (then.walkers[w].place / 4 == quarter) {
                bits |= 1 << w;
            }
        }
        return bits;
    }

    private boolean areWalkers(int fewest) {
        if (tape.length < fewest || tape.length > MOST_TOLD_TURNS) {
            return false;
        }
        for (int i = 0; i < tape.length; i++) {
            if (!isWalker(tape.at(i))) {
                return false;
            }
        }
        return true;
    }

    private int firstFalseTurn(int d) {
        if (!areWalkers(1)) {
            return -2;
        }
        Scene then = foreseen();
        Dog dog = then.dogs[d];
        int before = dog.turnCount;
        int k = 0;
        for (int i = 0; i < JUDGE_SECONDS && k < tape.length; i++) {
            then.pass(world.plan);
            if (dog.turnCount - before > k) {
                if (dog.latest != tape.at(k)) {
                    return k;
                }
                k++;
            }
        }
        return k < tape.length ? k : NONE;
    }

    private boolean areTurns() {
        if (!areWalkers(2)) {
            return false;
        }
        for (int i = 1; i < tape.length; i++) {
            if (tape.at(i) == tape.at(i - 1)) {
                return false;
            }
        }
        return true;
    }

    private int fittingLaws() {
        int bits = 0;
        if (fits(LAW_OTHER)) {
            bits |= 1;
        }
        if (fits(LAW_NEAR)) {
            bits |= 2;
        }
        if (fits(LAW_LAST)) {
            bits |= 4;
        }
        return bits;
    }

    private boolean fits(int law) {
        Scene quiet = foreseenQuiet();
        Dog dog = quiet.dogs[0];
        dog.sitBy(tape.at(0));
        for (int i = 1; i < tape.length; i++) {
            if (quiet.leap(world.plan.walkers, dog, law, i) != tape.at(i)) {
                return false;
            }
        }
        return true;
    }

    /** Without a stick and a call, as rounds and laws are asked for. */
    private Scene foreseenQuiet() {
        Scene quiet = foreseen();
        quiet.stick = NONE;
        quiet.caller = NONE;
        return quiet;
    }

    private boolean hasRound(int d) {
        return isDog(d) && world.plan.walkers > 1;
    }

    /**
     * Ahead of the round it may see some whom it never sees again, each of them once at most. In the round
     * each is seen once: whom it chooses depends on where it is alone, or on the order in which it saw all.
     */
    private int roundBits(int d) {
        Scene quiet = foreseenQuiet();
        Dog dog = quiet.dogs[d];
        int bits = 0;
        for (int i = 0; i < 3 * MOST_WALKERS; i++) {
            int whom = quiet.leap(world.plan.walkers, dog, world.plan.law[d], ALL_SECONDS + i);
            if (i >= 2 * MOST_WALKERS && whom != NONE) {
                bits |= 1 << whom;
            }
        }
        return bits;
    }

    private boolean areTwo(int w, int v, int u) {
        if (!isWalker(w) || !isWalker(v) || u < 1 || u > MOST_PACE_BETWEEN) {
            return false;
        }
        int a = world.plan.pace[w];
        int b = world.plan.pace[v];
        return a + b > 0 && u > a && u > b && world.scene.apart(w, v) > 0;
    }

    private void shrink(int w, int v, int u, int n) {
        boolean fromFirst = n % 2 == 1;
        int from = world.plan.pace[fromFirst ? w : v];
        int to = world.plan.pace[fromFirst ? v : w];
        part.times(u - from, u + to);
    }

    /** The words that mean something in a text: no name may be one of them. */
    private enum Word {
        LINE("line"), BODY("body"), KEEPS("keeps"), WALKER("walker"), BACK("back"), DOG("dog"),
        OTHER("other"), NEAR("near"), LAST("last"), CALL("call"), TIRES("tires"),
        STOPS("stops"), WALKS("walks"), TURNS("turns"), CALLS("calls"), THROWS("throws"), SECOND("second"),
        OR("or"), AND("and"), NOT("not"), STANDS("stands"), HANGS("hangs"), SOUGHT("sought"), BY("by"),
        PLACE("place"), PACE("pace"), VISITS("visits"), NUMBER("number");

        private final long code;

        Word(String text) {
            long sum = 0;
            for (int i = 0; i < text.length(); i++) {
                sum = Tape.withLetter(sum, text.charAt(i));
            }
            code = sum;
        }
    }

    /** The tape, and the tokens of the text that is on it. */
    private static final class Tape {
        private static final int END = 0;
        private static final int BAD = 1;
        private static final int WORD = 2;
        private static final int NAME = 3;
        private static final int NUMBER = 4;
        private static final int SIGN = 5;

        private static final int MOST_LETTERS = 7;
        private static final int MOST_DIGITS = 3;

        private final byte[] bytes;
        private int length;
        private int most;
        private int next;
        private int place;
        private int kind;
        private Word word;
        private long code;
        private int number;
        private int sign;
        private int fault;
        private int faultPlace;

        Tape() {
            bytes = new byte[MOST_TAPE];
            word = Word.LINE;
        }

        /** A name is kept as a number, for no text is made then: seven letters need 35 bits. */
        static long withLetter(long code, int letter) {
            return code * 32 + (letter - 'a' + 1);
        }

        void append(int four) {
            for (int shift = 24; shift >= 0; shift -= 8) {
                if (length < MOST_TAPE) {
                    bytes[length] = (byte) (four >> shift);
                    length++;
                }
            }
        }

        int at(int i) {
            return i >= 0 && i < length ? bytes[i] & 255 : NONE;
        }

        void startText(int mostBytes) {
            most = mostBytes;
            next = 0;
            fault = 0;
            faultPlace = 0;
            advance();
        }

        void advance() {
            int stop = Math.min(length, most);
            while (next < stop && (at(next) == 32 || at(next) == 10)) {
                next++;
            }
            if (next >= stop) {
                place = stop;
                kind = END;
                return;
            }
            place = next;
            if (isLetter(at(next)) || isDigit(at(next))) {
                readRun();
            } else {
                sign = at(next);
                kind = isSign(sign) ? SIGN : BAD;
                next++;
            }
        }

        private void readRun() {
            int letters = 0;
            int digits = 0;
            code = 0;
            number = 0;
            for (; next < length && (isLetter(at(next)) || isDigit(at(next))); next++) {
                if (isLetter(at(next))) {
                    letters++;
                    code = withLetter(code, at(next));
                } else {
                    digits++;
                    number = number * 10 + at(next) - '0';
                }
            }
            if (digits == 0 && letters <= MOST_LETTERS) {
                kind = isKnownWord() ? WORD : NAME;
            } else {
                kind = letters == 0 && digits <= MOST_DIGITS ? NUMBER : BAD;
            }
        }

        private boolean isKnownWord() {
            for (int i = 0; i < WORDS.length; i++) {
                if (WORDS[i].code == code) {
                    word = WORDS[i];
                    return true;
                }
            }
            return false;
        }

        private static boolean isLetter(int b) {
            return b >= 'a' && b <= 'z';
        }

        private static boolean isDigit(int b) {
            return b >= '0' && b <= '9';
        }

        private static boolean isSign(int b) {
            return b == ';' || b == '<' || b == '=' || b == '>' || b == '(' || b == ')';
        }

        /** The first fault stays: the text is read from its beginning on. */
        boolean fail(int faultKind) {
            if (fault == 0) {
                fault = faultKind;
                faultPlace = place;
            }
            return false;
        }

        boolean atEnd() {
            return kind == END;
        }

        /** What is beyond the most bytes is no text: a longer one fails there, at its end. */
        boolean closes() {
            return kind == END && length <= most || fail(FAULT_TOKEN);
        }

        boolean sees(Word wanted) {
            return kind == WORD && word == wanted;
        }

        boolean seesSign(int wanted) {
            return kind == SIGN && sign == wanted;
        }

        boolean takes(Word wanted) {
            if (!sees(wanted)) {
                return false;
            }
            advance();
            return true;
        }

        boolean needsSign(int wanted) {
            if (!seesSign(wanted)) {
                return fail(FAULT_TOKEN);
            }
            advance();
            return true;
        }

        /** The number, or NONE behind a fault. */
        int needsNumber(int low, int high) {
            if (kind != NUMBER) {
                fail(FAULT_TOKEN);
                return NONE;
            }
            if (number < low || number > high) {
                fail(FAULT_NUMBER);
                return NONE;
            }
            int answer = number;
            advance();
            return answer;
        }

        /** The name's number among those told, or NONE behind a fault; the token is still there. */
        int needsKnown(long[] names, int told) {
            if (kind != NAME) {
                fail(FAULT_TOKEN);
                return NONE;
            }
            int which = indexOf(names, told, code);
            if (which == NONE) {
                fail(FAULT_NAME);
            }
            return which;
        }

        static int indexOf(long[] names, int told, long name) {
            for (int i = 0; i < told && i < names.length; i++) {
                if (names[i] == name) {
                    return i;
                }
            }
            return NONE;
        }
    }

    /** What a BEACH tells, and what no second changes. */
    private static final class Plan {
        private int lines;
        private int line;
        private int body;
        private int keeps;
        private boolean lineTold;
        private boolean bodyTold;
        private int walkers;
        private int dogs;
        private final long[] walkerNames;
        private final int[] place;
        private final int[] pace;
        private final boolean[] back;
        private final long[] dogNames;
        private final int[] dogStart;
        private final int[] dogPace;
        private final int[] dogPause;
        private final int[] law;
        private final int[] tires;

        Plan() {
            walkerNames = new long[MOST_WALKERS];
            place = new int[MOST_WALKERS];
            pace = new int[MOST_WALKERS];
            back = new boolean[MOST_WALKERS];
            dogNames = new long[MOST_DOGS];
            dogStart = new int[MOST_DOGS];
            dogPace = new int[MOST_DOGS];
            dogPause = new int[MOST_DOGS];
            law = new int[MOST_DOGS];
            tires = new int[MOST_DOGS];
            forget();
        }

        void forget() {
            lines = 0;
            line = 400;
            body = 1;
            keeps = NONE;
            lineTold = false;
            bodyTold = false;
            walkers = 0;
            dogs = 0;
        }

        void copyFrom(Plan other) {
            lines = other.lines;
            line = other.line;
            body = other.body;
            keeps = other.keeps;
            lineTold = other.lineTold;
            bodyTold = other.bodyTold;
            walkers = other.walkers;
            dogs = other.dogs;
            for (int w = 0; w < MOST_WALKERS; w++) {
                walkerNames[w] = other.walkerNames[w];
                place[w] = other.place[w];
                pace[w] = other.pace[w];
                back[w] = other.back[w];
            }
            for (int d = 0; d < MOST_DOGS; d++) {
                dogNames[d] = other.dogNames[d];
                dogStart[d] = other.dogStart[d];
                dogPace[d] = other.dogPace[d];
                dogPause[d] = other.dogPause[d];
                law[d] = other.law[d];
                tires[d] = other.tires[d];
            }
        }

        boolean read(Tape t) {
            forget();
            t.startText(MOST_BEACH);
            for (int i = 0; i <= MOST_BEACH && !t.atEnd(); i++) {
                if (!readLine(t) || !t.needsSign(';')) {
                    return false;
                }
                lines++;
            }
            return t.closes();
        }

        private boolean readLine(Tape t) {
            if (t.sees(Word.LINE)) {
                return readLength(t);
            }
            if (t.sees(Word.BODY)) {
                return readBody(t);
            }
            if (t.sees(Word.KEEPS)) {
                return readKeeps(t);
            }
            if (t.sees(Word.WALKER)) {
                return readWalker(t);
            }
            if (t.sees(Word.DOG)) {
                return readDog(t);
            }
            if (t.sees(Word.TIRES)) {
                return readTires(t);
            }
            return t.fail(FAULT_TOKEN);
        }

        private boolean readLength(Tape t) {
            if (lineTold || walkers > 0) {
                return t.fail(FAULT_NAME);
            }
            lineTold = true;
            t.advance();
            line = t.needsNumber(1, 900);
            return line != NONE;
        }

        private boolean readBody(Tape t) {
            if (bodyTold) {
                return t.fail(FAULT_NAME);
            }
            bodyTold = true;
            t.advance();
            body = t.needsNumber(0, 9);
            return body != NONE;
        }

        private boolean readKeeps(Tape t) {
            if (keeps != NONE) {
                return t.fail(FAULT_NAME);
            }
            t.advance();
            keeps = t.needsNumber(1, 99);
            return keeps != NONE;
        }

        private boolean readWalker(Tape t) {
            if (walkers >= MOST_WALKERS) {
                return t.fail(FAULT_MANY);
            }
            t.advance();
            if (!seesNewName(t)) {
                return false;
            }
            walkerNames[walkers] = t.code;
            t.advance();
            place[walkers] = t.needsNumber(0, line);
            if (place[walkers] == NONE) {
                return false;
            }
            pace[walkers] = t.needsNumber(0, 9);
            if (pace[walkers] == NONE) {
                return false;
            }
            back[walkers] = t.takes(Word.BACK);
            walkers++;
            return true;
        }

        private boolean seesNewName(Tape t) {
            if (t.kind != Tape.NAME) {
                return t.fail(FAULT_TOKEN);
            }
            boolean told = Tape.indexOf(walkerNames, walkers, t.code) != NONE
                    || Tape.indexOf(dogNames, dogs, t.code) != NONE;
            return !told || t.fail(FAULT_NAME);
        }

        private boolean readDog(Tape t) {
            if (dogs >= MOST_DOGS) {
                return t.fail(FAULT_MANY);
            }
            t.advance();
            if (!seesNewName(t)) {
                return false;
            }
            dogNames[dogs] = t.code;
            t.advance();
            dogStart[dogs] = t.needsKnown(walkerNames, walkers);
            if (dogStart[dogs] == NONE) {
                return false;
            }
            t.advance();
            dogPace[dogs] = t.needsNumber(1, 30);
            if (dogPace[dogs] == NONE) {
                return false;
            }
            dogPause[dogs] = t.needsNumber(0, 9);
            if (dogPause[dogs] == NONE) {
                return false;
            }
            law[dogs] = seenLaw(t);
            if (law[dogs] == NONE) {
                return t.fail(FAULT_TOKEN);
            }
            t.advance();
            tires[dogs] = 0;
            dogs++;
            return true;
        }

        private static int seenLaw(Tape t) {
            if (t.sees(Word.OTHER)) {
                return LAW_OTHER;
            }
            if (t.sees(Word.NEAR)) {
                return LAW_NEAR;
            }
            if (t.sees(Word.LAST)) {
                return LAW_LAST;
            }
            return t.sees(Word.CALL) ? LAW_CALL : NONE;
        }

        private boolean readTires(Tape t) {
            t.advance();
            int d = t.needsKnown(dogNames, dogs);
            if (d == NONE) {
                return false;
            }
            if (tires[d] != 0) {
                return t.fail(FAULT_NAME);
            }
            t.advance();
            tires[d] = t.needsNumber(1, 20);
            return tires[d] != NONE;
        }
    }

    /** A walker, as he is in a second. */
    private static final class Walker {
        private int place;
        private boolean back;
        private boolean walks;
        private boolean hangs;
        private boolean moved;
        private int visits;
        private int went;
        private int seenAt;

        void begin(int startPlace, boolean startBack) {
            place = startPlace;
            back = startBack;
            walks = true;
            hangs = false;
            moved = false;
            visits = 0;
            went = 0;
            seenAt = SEEN_AT_FIRST;
        }

        void copyFrom(Walker other) {
            place = other.place;
            back = other.back;
            walks = other.walks;
            hangs = other.hangs;
            moved = other.moved;
            visits = other.visits;
            went = other.went;
            seenAt = other.seenAt;
        }

        void step(int pace, int line) {
            int before = place;
            if (walks && !hangs) {
                place = back ? Math.max(0, place - pace) : Math.min(line, place + pace);
            }
            moved = place != before;
            went += Math.abs(place - before);
        }
    }

    /** A dog, as it is in a second. */
    private static final class Dog {
        private int place;
        private int pace;
        private int ran;
        private int turnCount;
        private int goal;
        private int pause;
        private int latest;
        private final int[] sawAt;
        private final int[] seenWhom;
        private final int[] seenWhere;

        Dog() {
            goal = NONE;
            sawAt = new int[MOST_WALKERS];
            seenWhom = new int[MOST_TURNS_TOLD];
            seenWhere = new int[MOST_TURNS_TOLD];
        }

        void begin(int startPlace, int startPace, int walker) {
            place = startPlace;
            pace = startPace;
            ran = 0;
            turnCount = 0;
            goal = NONE;
            pause = 0;
            sitBy(walker);
        }

        /** As at first: nobody was seen ahead of that. */
        void sitBy(int walker) {
            latest = walker;
            for (int w = 0; w < MOST_WALKERS; w++) {
                sawAt[w] = w == walker ? SEEN_AT_FIRST : NEVER_SEEN;
            }
        }

        void copyFrom(Dog other) {
            place = other.place;
            pace = other.pace;
            ran = other.ran;
            turnCount = other.turnCount;
            goal = other.goal;
            pause = other.pause;
            latest = other.latest;
            System.arraycopy(other.sawAt, 0, sawAt, 0, MOST_WALKERS);
            System.arraycopy(other.seenWhom, 0, seenWhom, 0, MOST_TURNS_TOLD);
            System.arraycopy(other.seenWhere, 0, seenWhere, 0, MOST_TURNS_TOLD);
        }

        /** Runs toward a place: true, if it is there then. */
        boolean runTo(int aim) {
            int way = Math.abs(aim - place);
            if (way > pace) {
                place += aim > place ? pace : -pace;
                ran += pace;
                return false;
            }
            place = aim;
            ran += way;
            return true;
        }

        void see(int walker, int second) {
            seenWhom[turnCount % MOST_TURNS_TOLD] = walker;
            seenWhere[turnCount % MOST_TURNS_TOLD] = place;
            turnCount++;
            remember(walker, second);
            goal = NONE;
        }

        void remember(int walker, int second) {
            if (walker >= 0 && walker < MOST_WALKERS) {
                sawAt[walker] = second;
                latest = walker;
            }
        }

        void tire(int everyTurns) {
            if (everyTurns > 0 && turnCount % everyTurns == 0 && pace > 1) {
                pace--;
            }
        }

        int seenBefore(int k) {
            return isTold(k) ? seenWhom[(turnCount - 1 - k) % MOST_TURNS_TOLD] : NONE;
        }

        int placeBefore(int k) {
            return isTold(k) ? seenWhere[(turnCount - 1 - k) % MOST_TURNS_TOLD] : NONE;
        }

        private boolean isTold(int k) {
            return k >= 0 && k < MOST_TURNS_TOLD && k < turnCount;
        }
    }

    /** All that is so on a beach in a second. */
    private static final class Scene {
        private int second;
        private int stick;
        private int caller;
        private final Walker[] walkers;
        private final Dog[] dogs;
        private final int[] behind;

        Scene() {
            stick = NONE;
            caller = NONE;
            walkers = new Walker[MOST_WALKERS];
            for (int w = 0; w < MOST_WALKERS; w++) {
                walkers[w] = new Walker();
            }
            dogs = new Dog[MOST_DOGS];
            for (int d = 0; d < MOST_DOGS; d++) {
                dogs[d] = new Dog();
            }
            behind = new int[MOST_WALKERS * MOST_WALKERS];
        }

        void begin(Plan plan) {
            second = 0;
            stick = NONE;
            caller = NONE;
            for (int w = 0; w < MOST_WALKERS; w++) {
                walkers[w].begin(plan.place[w], plan.back[w]);
            }
            for (int d = 0; d < MOST_DOGS; d++) {
                boolean told = d < plan.dogs;
                int start = told ? plan.dogStart[d] : 0;
                dogs[d].begin(plan.place[start], told ? plan.dogPace[d] : 1, start);
            }
            for (int i = 0; i < behind.length; i++) {
                behind[i] = 0;
            }
        }

        void copyFrom(Scene other) {
            second = other.second;
            stick = other.stick;
            caller = other.caller;
            for (int w = 0; w < MOST_WALKERS; w++) {
                walkers[w].copyFrom(other.walkers[w]);
            }
            for (int d = 0; d < MOST_DOGS; d++) {
                dogs[d].copyFrom(other.dogs[d]);
            }
            System.arraycopy(other.behind, 0, behind, 0, behind.length);
        }

        int apart(int w, int v) {
            return Math.abs(walkers[w].place - walkers[v].place);
        }

        int hangingBits() {
            int bits = 0;
            for (int w = 0; w < MOST_WALKERS; w++) {
                if (walkers[w].hangs) {
                    bits |= 1 << w;
                }
            }
            return bits;
        }

        int walkingBits(int count) {
            int bits = 0;
            for (int w = 0; w < count; w++) {
                if (walkers[w].walks) {
                    bits |= 1 << w;
                }
            }
            return bits;
        }

        int allTurns() {
            int sum = 0;
            for (int d = 0; d < MOST_DOGS; d++) {
                sum += dogs[d].turnCount;
            }
            return sum;
        }

        boolean isSought(int w) {
            for (int d = 0; d < MOST_DOGS; d++) {
                if (dogs[d].goal == w) {
                    return true;
                }
            }
            return false;
        }

        // ---- acts

        int whyNot(Word deed, int w) {
            if (deed == Word.STOPS) {
                return walkers[w].walks ? 0 : 1;
            }
            if (deed == Word.WALKS) {
                return walkers[w].walks ? 1 : 0;
            }
            return deed == Word.THROWS && stick == w ? 1 : 0;
        }

        void perform(Word deed, int w) {
            if (deed == Word.STOPS) {
                walkers[w].walks = false;
            } else if (deed == Word.WALKS) {
                walkers[w].walks = true;
            } else if (deed == Word.TURNS) {
                walkers[w].back = !walkers[w].back;
            } else if (deed == Word.CALLS) {
                caller = w;
            } else if (deed == Word.THROWS) {
                stick = w;
            }
        }

        // ---- seconds

        /** A second goes by: false, if all are over. */
        boolean pass(Plan plan) {
            if (second >= ALL_SECONDS) {
                return false;
            }
            for (int w = 0; w < plan.walkers; w++) {
                walkers[w].step(plan.pace[w], plan.line);
            }
            for (int d = 0; d < plan.dogs; d++) {
                letRun(plan, d);
            }
            for (int w = 0; w < plan.walkers; w++) {
                walkers[w].hangs = plan.keeps != NONE && second - walkers[w].seenAt >= plan.keeps;
            }
            second++;
            return true;
        }

        void passMany(Plan plan, int n) {
            for (int i = 0; i < n; i++) {
                pass(plan);
            }
        }

        void passDrawn(Plan plan, int n, int seed) {
            int x = seed;
            for (int i = 0; i < n && second < ALL_SECONDS; i++) {
                for (int w = 0; w < plan.walkers; w++) {
                    x = x * 1103515245 + 12345;
                    performDrawn((x >>> 8) % 12, w);
                }
                pass(plan);
            }
        }

        private void performDrawn(int draw, int w) {
            if (draw == 0) {
                perform(walkers[w].walks ? Word.STOPS : Word.WALKS, w);
            } else if (draw == 1) {
                perform(Word.TURNS, w);
            } else if (draw == 2) {
                perform(Word.CALLS, w);
            } else if (draw == 3) {
                perform(Word.THROWS, w);
            }
        }

        private void letRun(Plan plan, int d) {
            Dog dog = dogs[d];
            if (dog.pause > 0) {
                dog.pause--;
                return;
            }
            if (dog.goal == NONE) {
                dog.goal = choice(plan.walkers, dog, plan.law[d]);
            }
            int whom = dog.goal;
            if (whom >= 0 && whom < plan.walkers && dog.runTo(walkers[whom].place)) {
                behind[dog.latest * MOST_WALKERS + whom]++;
                dog.see(whom, second);
                dog.pause = plan.dogPause[d];
                dog.tire(plan.tires[d]);
                walkers[whom].visits++;
                walkers[whom].seenAt = second;
                if (stick == whom) {
                    stick = NONE;
                }
            }
        }

        // ---- how a dog chooses

        int choice(int count, Dog dog, int law) {
            if (count < 2) {
                return NONE;
            }
            if (stick != NONE && stick != dog.latest) {
                return stick;
            }
            if (law == LAW_NEAR) {
                return nearestTo(count, dog);
            }
            if (law == LAW_LAST) {
                return longestUnseen(count, dog);
            }
            if (law == LAW_CALL && caller != NONE && caller != dog.latest) {
                return caller;
            }
            return dog.latest + 1 < count ? dog.latest + 1 : 0;
        }

        private int nearestTo(int count, Dog dog) {
            int best = NONE;
            int bestWay = 0;
            for (int w = 0; w < count; w++) {
                int way = Math.abs(walkers[w].place - dog.place);
                if (w != dog.latest && (best == NONE || way < bestWay)) {
                    best = w;
                    bestWay = way;
                }
            }
            return best;
        }

        private static int longestUnseen(int count, Dog dog) {
            int best = NONE;
            int bestAt = 0;
            for (int w = 0; w < count; w++) {
                if (w != dog.latest && (best == NONE || dog.sawAt[w] < bestAt)) {
                    best = w;
                    bestAt = dog.sawAt[w];
                }
            }
            return best;
        }

        /** From where it was last to whom it chooses, at once: whom. */
        int leap(int count, Dog dog, int law, int time) {
            dog.place = walkers[dog.latest].place;
            int whom = choice(count, dog, law);
            dog.remember(whom, time);
            return whom;
        }
    }

    /** What an image keeps. */
    private static final class World {
        private final Plan plan;
        private final Scene scene;
        private final Saying saying;

        World() {
            plan = new Plan();
            scene = new Scene();
            saying = new Saying();
        }

        void copyFrom(World other) {
            plan.copyFrom(other.plan);
            scene.copyFrom(other.scene);
            saying.copyFrom(other.saying);
        }
    }

    /** How it was ahead of each of the latest acts. */
    private static final class History {
        private final Scene[] scenes;
        private int first;
        private int kept;

        History() {
            scenes = new Scene[MOST_KEPT];
            for (int i = 0; i < MOST_KEPT; i++) {
                scenes[i] = new Scene();
            }
        }

        void forget() {
            first = 0;
            kept = 0;
        }

        void keep(Scene scene) {
            scenes[(first + kept) % MOST_KEPT].copyFrom(scene);
            if (kept < MOST_KEPT) {
                kept++;
            } else {
                first = (first + 1) % MOST_KEPT;
            }
        }

        void giveBack(Scene scene) {
            if (kept > 0) {
                kept--;
                scene.copyFrom(scenes[(first + kept) % MOST_KEPT]);
            }
        }
    }

    /** A SENTENCE, kept so that what joins two stands behind both. */
    private static final class Saying {
        private static final int MOST_OPS = 2 * MOST_ONES;

        private int ones;
        private int ops;
        private final Word[] op;
        private final int[] sign;
        private final int[] number;
        private final int[] open;

        Saying() {
            op = new Word[MOST_OPS];
            sign = new int[MOST_OPS];
            number = new int[MOST_OPS];
            open = new int[MOST_OPS];
        }

        void forget() {
            ones = 0;
            ops = 0;
        }

        void copyFrom(Saying other) {
            ones = other.ones;
            ops = other.ops;
            for (int i = 0; i < MOST_OPS; i++) {
                op[i] = other.op[i];
                sign[i] = other.sign[i];
                number[i] = other.number[i];
            }
        }

        boolean read(Tape t, Plan plan) {
            forget();
            t.startText(MOST_SENTENCE);
            return readAny(t, plan, 1) && t.closes();
        }

        private boolean readAny(Tape t, Plan plan, int within) {
            boolean good = readAll(t, plan, within);
            for (int i = 0; i < MOST_ONES && good && t.takes(Word.OR); i++) {
                good = readAll(t, plan, within) && add(Word.OR, 0, 0);
            }
            return good;
        }

        private boolean readAll(Tape t, Plan plan, int within) {
            boolean good = readOne(t, plan, within);
            for (int i = 0; i < MOST_ONES && good && t.takes(Word.AND); i++) {
                good = readOne(t, plan, within) && add(Word.AND, 0, 0);
            }
            return good;
        }

        private boolean readOne(Tape t, Plan plan, int within) {
            if (!beginsOne(t)) {
                return t.fail(FAULT_TOKEN);
            }
            if (ones >= MOST_ONES || within > MOST_WITHIN) {
                return t.fail(FAULT_MANY);
            }
            ones++;
            if (t.takes(Word.NOT)) {
                return readOne(t, plan, within + 1) && add(Word.NOT, 0, 0);
            }
            if (t.seesSign('(')) {
                t.advance();
                return readAny(t, plan, within + 1) && t.needsSign(')');
            }
            return readPlain(t, plan);
        }

        private static boolean beginsOne(Tape t) {
            return t.seesSign('(') || t.sees(Word.NOT) || t.sees(Word.BY)
                    || t.sees(Word.STANDS) || t.sees(Word.HANGS) || t.sees(Word.SOUGHT)
                    || t.sees(Word.PLACE) || t.sees(Word.PACE) || t.sees(Word.VISITS) || t.sees(Word.NUMBER);
        }

        private boolean readPlain(Tape t, Plan plan) {
            Word what = t.word;
            t.advance();
            if (what == Word.STANDS || what == Word.HANGS || what == Word.SOUGHT) {
                return add(what, 0, 0);
            }
            if (what == Word.BY) {
                int w = t.needsKnown(plan.walkerNames, plan.walkers);
                if (w == NONE) {
                    return false;
                }
                t.advance();
                return add(what, 0, w);
            }
            if (!t.seesSign('<') && !t.seesSign('=') && !t.seesSign('>')) {
                return t.fail(FAULT_TOKEN);
            }
            int how = t.sign;
            t.advance();
            int n = t.needsNumber(0, 999);
            return n != NONE && add(what, how, n);
        }

        private boolean add(Word what, int how, int n) {
            if (ops < MOST_OPS) {
                op[ops] = what;
                sign[ops] = how;
                number[ops] = n;
                ops++;
            }
            return true;
        }

        /** Walkers of whom it may be said, as bits: all at once, part by part. */
        int saidOf(Plan plan, Scene scene) {
            int all = (1 << plan.walkers) - 1;
            int height = 0;
            for (int i = 0; i < ops; i++) {
                if (op[i] == Word.NOT && height >= 1) {
                    open[height - 1] ^= all;
                } else if (op[i] == Word.AND && height >= 2) {
                    height--;
                    open[height - 1] &= open[height];
                } else if (op[i] == Word.OR && height >= 2) {
                    height--;
                    open[height - 1] |= open[height];
                } else if (height < MOST_OPS) {
                    open[height] = plainBits(i, plan, scene);
                    height++;
                }
            }
            return height > 0 ? open[0] : 0;
        }

        private int plainBits(int i, Plan plan, Scene scene) {
            int bits = 0;
            for (int w = 0; w < plan.walkers; w++) {
                if (holds(i, w, plan, scene)) {
                    bits |= 1 << w;
                }
            }
            return bits;
        }

        private boolean holds(int i, int w, Plan plan, Scene scene) {
            Walker walker = scene.walkers[w];
            if (op[i] == Word.STANDS) {
                return !walker.moved;
            }
            if (op[i] == Word.HANGS) {
                return walker.hangs;
            }
            if (op[i] == Word.SOUGHT) {
                return scene.isSought(w);
            }
            if (op[i] == Word.BY) {
                return number[i] < plan.walkers && scene.apart(w, number[i]) <= plan.body;
            }
            if (op[i] == Word.PLACE) {
                return compares(walker.place, i);
            }
            if (op[i] == Word.PACE) {
                return compares(plan.pace[w], i);
            }
            return compares(op[i] == Word.VISITS ? walker.visits : w, i);
        }

        private boolean compares(int value, int i) {
            if (sign[i] == '<') {
                return value < number[i];
            }
            return sign[i] == '>' ? value > number[i] : value == number[i];
        }
    }

    /** A LOG, and what was said of the latest one. */
    private static final class Script {
        private static final int TOO_FEW_SECONDS = 41;

        private int lines;
        private final Word[] deed;
        private final int[] number;
        private boolean played;
        private int why;
        private int good;
        private int secondThen;
        private int turnsIn;

        Script() {
            deed = new Word[MOST_LINES];
            number = new int[MOST_LINES];
        }

        boolean read(Tape t, Plan plan) {
            lines = 0;
            t.startText(MOST_LOG);
            for (int i = 0; i <= MOST_LINES && !t.atEnd(); i++) {
                boolean read = t.sees(Word.SECOND) ? readSeconds(t) : readDeed(t, plan);
                if (!read || !t.needsSign(';')) {
                    return false;
                }
                lines++;
            }
            return t.closes();
        }

        private boolean readSeconds(Tape t) {
            if (lines >= MOST_LINES) {
                return t.fail(FAULT_MANY);
            }
            t.advance();
            deed[lines] = Word.SECOND;
            number[lines] = t.needsNumber(1, MOST_SECONDS);
            return number[lines] != NONE;
        }

        private boolean readDeed(Tape t, Plan plan) {
            int w = t.needsKnown(plan.walkerNames, plan.walkers);
            if (w == NONE) {
                return false;
            }
            if (lines >= MOST_LINES) {
                return t.fail(FAULT_MANY);
            }
            t.advance();
            if (!seesDeed(t)) {
                return t.fail(FAULT_TOKEN);
            }
            deed[lines] = t.word;
            number[lines] = w;
            t.advance();
            return true;
        }

        private static boolean seesDeed(Tape t) {
            return t.sees(Word.STOPS) || t.sees(Word.WALKS) || t.sees(Word.TURNS)
                    || t.sees(Word.CALLS) || t.sees(Word.THROWS);
        }

        /** Lives the log as far as it is not wrong: the line that is, or NONE. */
        int play(Plan plan, Scene scene) {
            int turnsBefore = scene.allTurns();
            why = 0;
            good = 0;
            for (int i = 0; i < lines && why == 0; i++) {
                why = playLine(i, plan, scene);
                if (why == 0) {
                    good++;
                }
            }
            played = true;
            secondThen = scene.second;
            turnsIn = scene.allTurns() - turnsBefore;
            return why == 0 ? NONE : good;
        }

        private int playLine(int i, Plan plan, Scene scene) {
            if (deed[i] == Word.SECOND) {
                if (number[i] > ALL_SECONDS - scene.second) {
                    return TOO_FEW_SECONDS;
                }
                for (int n = 0; n < number[i]; n++) {
                    scene.pass(plan);
                }
                return 0;
            }
            int whyNot = scene.whyNot(deed[i], number[i]);
            if (whyNot == 0) {
                scene.perform(deed[i], number[i]);
                return 0;
            }
            if (deed[i] == Word.STOPS) {
                return whyNot;
            }
            return whyNot + (deed[i] == Word.WALKS ? 10 : 20);
        }
    }

    /** A fraction, always in least terms. */
    private static final class Part {
        private long above;
        private long below;

        void begin(long whole) {
            above = whole;
            below = 1;
        }

        void times(long over, long under) {
            above *= over;
            below *= under;
            long shared = commonDivisor(above, below);
            if (shared > 1) {
                above /= shared;
                below /= shared;
            }
        }

        /** The longs have less than ninety steps of it. */
        private static long commonDivisor(long a, long b) {
            for (int i = 0; i < 100 && b != 0; i++) {
                long rest = a % b;
                a = b;
                b = rest;
            }
            return a;
        }
    }
}
