import java.util.ArrayList;
import java.util.Arrays;
import java.util.List;

/** The texts of the document, read for the Model: a FAULT is thrown. */
final class ModelText {
    static final class Fault extends Exception {
        private static final long serialVersionUID = 1L;
        final int kind;
        final int place;

        Fault(int kind, int place) {
            this.kind = kind;
            this.place = place;
        }
    }

    static final class Line {
        final String how;
        final int number;

        Line(String how, int number) {
            this.how = how;
            this.number = number;
        }
    }

    interface Cond {
        boolean holds(Model.State s, int w);
    }

    private static final List<String> RESERVED = Arrays.asList(("line body keeps walker back dog other near last call"
            + " tires stops walks turns calls throws second or and not stands hangs sought by place pace visits number")
            .split(" "));

    private final String text;
    private final int most;
    private final List<String> tokens = new ArrayList<>();
    private final List<Integer> places = new ArrayList<>();
    private int at;
    int lines;
    int ones;

    /** The token of the end is an empty one; a wrong one stays in the row till it is come to. */
    ModelText(int[] bytes, int most) {
        StringBuilder s = new StringBuilder();
        for (int b : bytes) {
            s.append((char) b);
        }
        this.text = s.toString();
        this.most = most;
        int stop = Math.min(most, text.length());
        for (int i = 0; i < stop;) {
            int from = i;
            while (i < text.length() && String.valueOf(text.charAt(i)).matches("[a-z0-9]")) {
                i++;
            }
            if (i == from) {
                i++;
            }
            String token = text.substring(from, i);
            if (!token.equals(" ") && !token.equals("\n")) {
                tokens.add(token);
                places.add(from);
            }
        }
        tokens.add("");
        places.add(stop);
    }

    private String token() {
        return tokens.get(at);
    }

    private int place() {
        return places.get(at);
    }

    private Fault fault(int kind) {
        return new Fault(kind, place());
    }

    private boolean takes(String wanted) {
        if (token().equals(wanted)) {
            at++;
            return true;
        }
        return false;
    }

    private void need(String wanted) throws Fault {
        if (!takes(wanted)) {
            throw fault(1);
        }
    }

    private int number(int low, int high) throws Fault {
        if (!token().matches("[0-9]{1,3}")) {
            throw fault(1);
        }
        int n = Integer.parseInt(token());
        if (n < low || n > high) {
            throw fault(2);
        }
        at++;
        return n;
    }

    private void needName() throws Fault {
        if (!token().matches("[a-z]{1,7}") || RESERVED.contains(token())) {
            throw fault(1);
        }
    }

    private String newName(Model.State s) throws Fault {
        needName();
        if (s.man(token()) >= 0 || s.hound(token()) >= 0) {
            throw fault(3);
        }
        return tokens.get(at++);
    }

    private int man(Model.State s) throws Fault {
        needName();
        if (s.man(token()) < 0) {
            throw fault(3);
        }
        return s.man(tokens.get(at++));
    }

    private void needEnd() throws Fault {
        if (!token().isEmpty() || text.length() > most) {
            throw fault(1);
        }
    }

    Model.State beach() throws Fault {
        Model.State s = new Model.State();
        List<String> told = new ArrayList<>();
        while (!token().isEmpty()) {
            String first = token();
            boolean again = told.contains(first) || first.equals("line") && !s.men.isEmpty();
            if (again && Arrays.asList("line", "body", "keeps").contains(first)) {
                throw fault(3);
            }
            if (first.equals("walker") && s.men.size() == 6 || first.equals("dog") && s.hounds.size() == 2) {
                throw fault(4);
            }
            told.add(first);
            beachLine(s);
            need(";");
            lines++;
        }
        needEnd();
        return s;
    }

    private void beachLine(Model.State s) throws Fault {
        if (takes("line")) {
            s.line = number(1, 900);
        } else if (takes("body")) {
            s.body = number(0, 9);
        } else if (takes("keeps")) {
            s.keeps = number(1, 99);
        } else if (takes("walker")) {
            Model.Man m = new Model.Man();
            m.name = newName(s);
            m.place = number(0, s.line);
            m.pace = number(0, 9);
            m.back = takes("back");
            s.men.add(m);
        } else if (takes("dog")) {
            Model.Hound h = new Model.Hound();
            h.name = newName(s);
            int start = man(s);
            h.saw.add(start);
            h.place = s.men.get(start).place;
            h.pace = number(1, 30);
            h.pause = number(0, 9);
            h.law = token();
            if (!Arrays.asList("other", "near", "last", "call").contains(token())) {
                throw fault(1);
            }
            at++;
            s.hounds.add(h);
        } else {
            need("tires");
            needName();
            int d = s.hound(token());
            if (d < 0 || s.hounds.get(d).tires > 0) {
                throw fault(3);
            }
            at++;
            s.hounds.get(d).tires = number(1, 20);
        }
    }

    List<Line> log(Model.State s) throws Fault {
        List<Line> row = new ArrayList<>();
        while (!token().isEmpty()) {
            boolean seconds = token().equals("second");
            if (!seconds) {
                man(s);
                at--;
            }
            if (row.size() == 40) {
                throw fault(4);
            }
            if (seconds) {
                at++;
                row.add(new Line("second", number(1, 60)));
            } else {
                int w = man(s);
                if (!Arrays.asList("stops", "walks", "turns", "calls", "throws").contains(token())) {
                    throw fault(1);
                }
                row.add(new Line(tokens.get(at++), w));
            }
            need(";");
        }
        needEnd();
        return row;
    }

    Cond sentence(Model.State s) throws Fault {
        Cond c = any(s, 0);
        needEnd();
        return c;
    }

    private Cond any(Model.State s, int around) throws Fault {
        Cond c = all(s, around);
        while (takes("or")) {
            Cond a = c;
            Cond b = all(s, around);
            c = (t, w) -> a.holds(t, w) || b.holds(t, w);
        }
        return c;
    }

    private Cond all(Model.State s, int around) throws Fault {
        Cond c = one(s, around);
        while (takes("and")) {
            Cond a = c;
            Cond b = one(s, around);
            c = (t, w) -> a.holds(t, w) && b.holds(t, w);
        }
        return c;
    }

    /** Around: how many ONES it stands in. */
    private Cond one(Model.State s, int around) throws Fault {
        if (!Arrays.asList("not ( stands hangs sought by place pace visits number".split(" ")).contains(token())) {
            throw fault(1);
        }
        if (ones == 20 || around == 8) {
            throw fault(4);
        }
        ones++;
        String first = tokens.get(at++);
        switch (first) {
            case "not":
                Cond a = one(s, around + 1);
                return (t, w) -> !a.holds(t, w);
            case "(":
                Cond in = any(s, around + 1);
                need(")");
                return in;
            case "stands":
                return (t, w) -> !t.men.get(w).moved;
            case "hangs":
                return (t, w) -> t.men.get(w).hangs;
            case "sought":
                return (t, w) -> t.hounds.stream().anyMatch(h -> h.goal == w);
            case "by":
                int v = man(s);
                return (t, w) -> t.apart(w, v) <= t.body;
            default:
                return compared(first);
        }
    }

    private Cond compared(String what) throws Fault {
        String sign = token();
        if (!Arrays.asList("<", "=", ">").contains(sign)) {
            throw fault(1);
        }
        at++;
        int n = number(0, 999);
        return (t, w) -> {
            Model.Man m = t.men.get(w);
            int value = what.equals("place") ? m.place : what.equals("pace") ? m.pace
                    : what.equals("visits") ? m.visits : w;
            return sign.equals("<") ? value < n : sign.equals("=") ? value == n : value > n;
        };
    }
}
