import java.lang.reflect.Constructor;
import java.lang.reflect.Field;
import java.lang.reflect.Method;
import java.lang.reflect.Modifier;
import java.nio.charset.StandardCharsets;
import java.nio.file.Files;
import java.nio.file.Path;
import java.util.Map;
import java.util.Set;
import java.util.TreeMap;
import java.util.TreeSet;

/** The public face, and what LANGUAGE.md rules out that can be seen in the text. Takes the source's path. */
public final class FaceTest {
    private static final String[] FACE = {
        "int feed(int,int,int,int,int)", "boolean end(int)", "int beach()", "int fault()", "int walker(int,int)",
        "int dog(int,int)", "int now(int)", "int stop(int)", "int walk(int)", "int turn(int)", "int call(int)",
        "int throwStick(int)", "int seconds(int)", "int undo()", "int gap(int,int)", "int meet(int,int)",
        "int run(int,int)", "int turns(int,int)", "int next(int)", "int said(int,int)", "int dearest()",
        "int far(int,int,int,int)", "long near(int,int,int,int,int)", "int ends(int,int,int)", "int round(int)",
        "int circle(int)", "int strays()", "int least(int,int)", "int runs(int,int)", "int prints()",
        "int judge(int)", "int laws()", "int turned(int,int)", "int turnedAt(int,int)", "int drawn(int,int)",
        "int odds(int,int,int)", "int log(int)", "int logged(int)", "int sentence()", "int told(int)",
        "boolean image(int)", "boolean restore(int)", "int count(int)"};

    private static final String[] RULED_OUT = {
        "->", "::", "Exact", "synchronized", "finally", "assert ", "System.out", "System.in", "Thread", "Random",
        "catch", "try ", "String.format", "HashMap", "Object ", "import java.io", "volatile", "native", "package "};

    public static void main(String[] args) throws Exception {
        face();
        members();
        sizes();
        text(Path.of(args[0]));
        Check.finish();
    }

    private static String told(Method m) {
        StringBuilder s = new StringBuilder(m.getReturnType().getSimpleName() + " " + m.getName() + "(");
        for (int i = 0; i < m.getParameterCount(); i++) {
            s.append(i == 0 ? "" : ",").append(m.getParameterTypes()[i].getSimpleName());
        }
        return s.append(")").toString();
    }

    private static void face() {
        Set<String> due = new TreeSet<>(Set.of(FACE));
        Set<String> there = new TreeSet<>();
        for (Method m : BetweenThem.class.getDeclaredMethods()) {
            if (Modifier.isPublic(m.getModifiers())) {
                there.add(told(m));
            }
        }
        Check.due("the face " + there, there.equals(due), true);
        Check.due("public final", BetweenThem.class.getModifiers(), Modifier.PUBLIC | Modifier.FINAL);
        Constructor<?>[] made = BetweenThem.class.getDeclaredConstructors();
        Check.due("one constructor", made.length, 1);
        Check.due("without parameters", made[0].getParameterCount(), 0);
    }

    private static void members() {
        Set<String> names = new TreeSet<>();
        for (String m : FACE) {
            names.add(m.substring(m.indexOf(' ') + 1, m.indexOf('(')));
        }
        for (Method m : BetweenThem.class.getDeclaredMethods()) {
            boolean open = Modifier.isPublic(m.getModifiers());
            Check.due("public or private " + m, open || Modifier.isPrivate(m.getModifiers()) || m.isSynthetic(), true);
            Check.due("a name of its own " + m, open || !names.contains(m.getName()), true);
        }
        for (Field f : BetweenThem.class.getDeclaredFields()) {
            boolean constant = f.getName().equals("NONE") && Modifier.isPublic(f.getModifiers());
            Check.due("private " + f, constant || Modifier.isPrivate(f.getModifiers()), true);
            Check.due("static is final " + f,
                    !Modifier.isStatic(f.getModifiers()) || Modifier.isFinal(f.getModifiers()), true);
        }
        for (Class<?> c : BetweenThem.class.getDeclaredClasses()) {
            Check.due("static " + c, Modifier.isStatic(c.getModifiers()), true);
            Check.due("not public " + c, Modifier.isPublic(c.getModifiers()), false);
            for (Method m : c.getDeclaredMethods()) {
                Check.due("a name of its own " + m, names.contains(m.getName()), false);
            }
        }
    }

    private static void sizes() {
        Map<String, Integer> fields = new TreeMap<>();
        Class<?>[] inside = BetweenThem.class.getDeclaredClasses();
        Check.due("twelve classes at most", inside.length + 1 <= 12, true);
        for (Class<?> c : inside) {
            int count = 0;
            for (Field f : c.getDeclaredFields()) {
                count += Modifier.isStatic(f.getModifiers()) ? 0 : 1;
            }
            fields.put(c.getSimpleName(), count);
            Check.due("twenty fields at most " + fields, count <= 20, true);
            for (Method m : c.getDeclaredMethods()) {
                Check.due("seven parameters at most " + m, m.getParameterCount() <= 7, true);
            }
        }
    }

    private static void text(Path source) throws Exception {
        String text = Files.readString(source, StandardCharsets.ISO_8859_1);
        for (String word : RULED_OUT) {
            Check.due("no '" + word + "'", text.contains(word), false);
        }
        for (int i = 0; i < text.length(); i++) {
            if (text.charAt(i) > 127) {
                Check.due("a sign above 127 at " + i, true, false);
            }
        }
        int open = -1;
        String[] lines = text.split("\n");
        for (int i = 0; i < lines.length; i++) {
            if (lines[i].matches(" {4,8}[a-zA-Z].*\\) (throws \\w+ )?\\{")) {
                open = i;
            }
            if (open >= 0 && lines[i].matches(" {4,8}\\}")) {
                Check.due("sixty lines at most at " + (open + 1), i - open <= 60, true);
                open = -1;
            }
        }
    }
}
