import java.lang.reflect.Constructor;
import java.lang.reflect.Field;
import java.lang.reflect.Method;
import java.lang.reflect.Modifier;
import java.nio.file.Files;
import java.nio.file.Path;
import java.util.ArrayList;
import java.util.Arrays;
import java.util.List;
import java.util.Set;
import java.util.TreeSet;

/** The face as the document tells it, and what of LANGUAGE.md can be seen in the class and in its text. */
public final class LanguageTest {
    private static final Due due = new Due();
    private static final String[] FACE = {
        "int cart int int", "int loads int int int", "int mend int int int", "int of int int", "int feed int",
        "int law", "int heats int", "int later int int int", "int stack int int", "int first int int", "int rods int",
        "long rodsAt int", "int turn int int int", "int chimney int int", "int latest", "int lay int int int",
        "int worth", "int sell int int int", "int whose", "int judge int int", "int book int int int",
        "int byTurns int int", "int drawn int int int", "int turned int", "int salt int", "int read int", "int day",
        "int led int", "int image", "int back", "int undo", "int redo", "int body int", "int act int int int",
        "int trace int", "int keep int int", "int row int int int", "int put int int long", "long element int int",
        "int shift int int int int int", "int taken int int", "int count int"};

    public static void main(String[] args) throws Exception {
        face();
        classes();
        text();
        due.finish("LanguageTest");
    }

    private static void face() throws Exception {
        due.part("the face");
        Class<?> c = HotStack.class;
        due.holds("public final", c.getModifiers() == (Modifier.PUBLIC | Modifier.FINAL));
        Set<String> want = new TreeSet<>(Arrays.asList(FACE));
        Set<String> names = new TreeSet<>();
        for (String f : FACE) {
            names.add(f.split(" ")[1]);
        }
        Set<String> got = new TreeSet<>();
        for (Method m : c.getDeclaredMethods()) {
            StringBuilder b = new StringBuilder(m.getReturnType() + " " + m.getName());
            for (Class<?> p : m.getParameterTypes()) {
                b.append(' ').append(p);
            }
            if (Modifier.isPublic(m.getModifiers())) {
                got.add(b.toString());
                due.holds(m + " is of an object", !Modifier.isStatic(m.getModifiers()));
            } else {
                due.holds(m + " is private", Modifier.isPrivate(m.getModifiers()));
                due.holds(m + " bears no public name", !names.contains(m.getName()));
            }
            due.holds(m + " names no exception", m.getExceptionTypes().length == 0);
        }
        due.holds("methods " + got + " of " + want, got.equals(want));
        Constructor<?>[] made = c.getDeclaredConstructors();
        due.holds("one public constructor", made.length == 1 && Modifier.isPublic(made[0].getModifiers())
                && made[0].getParameterCount() == 0);
        int[] values = {-1, -2, -3, -5, -2000000000};
        String[] constants = {"BAD", "NOT", "FULL", "STATE", "VOID"};
        for (int i = 0; i < 5; i++) {
            Field f = c.getField(constants[i]);
            due.holds("constant " + f, Modifier.isStatic(f.getModifiers()) && Modifier.isFinal(f.getModifiers()));
            due.due(constants[i], f.getInt(null), values[i]);
        }
        due.due("public fields", c.getFields().length, 5);
    }

    private static void classes() {
        due.part("classes and fields");
        List<Class<?>> all = new ArrayList<>(Arrays.asList(HotStack.class.getDeclaredClasses()));
        due.holds("some twelve classes: " + (all.size() + 1), all.size() + 1 <= 13);
        for (Class<?> c : all) {
            due.holds(c + " is static", Modifier.isStatic(c.getModifiers()));
            due.holds(c + " is not public", !Modifier.isPublic(c.getModifiers()) && !Modifier.isProtected(c.getModifiers()));
        }
        all.add(HotStack.class);
        for (Class<?> c : all) {
            int own = 0;
            for (Field f : c.getDeclaredFields()) {
                boolean fixed = Modifier.isStatic(f.getModifiers());
                own += fixed ? 0 : 1;
                due.holds(f + " is final if static", !fixed || Modifier.isFinal(f.getModifiers()));
                if (c == HotStack.class && !Modifier.isPublic(f.getModifiers())) {
                    due.holds(f + " is private", Modifier.isPrivate(f.getModifiers()));
                }
            }
            due.holds(c + " has some twenty fields: " + own, own <= 20);
            for (Method m : c.getDeclaredMethods()) {
                due.holds(m + " takes seven at most", m.getParameterCount() <= 7);
            }
        }
    }

    private static void text() throws Exception {
        due.part("the text");
        String all = Files.readString(Path.of("src/main/java/HotStack.java"));
        due.holds("signs of 1 to 126", all.matches("(?s)[\\x01-\\x7e]*+"));
        String code = all.replaceAll("(?s)/\\*.*?\\*/", "").replaceAll("//[^\n]*", "");
        for (String word : new String[] {"->", "::", "import ", "package ", "catch", "try", "throw", "finally",
            "synchronized", "assert", "instanceof", "System.out", "nanoTime", "currentTimeMillis", "Random", "Thread",
            "Exact", "Iterator", "var ", "volatile", "native", "getClass", "hashCode", "equals", "\"", "static {"}) {
            due.holds("no " + word, !code.contains(word));
        }
        int open = 0;
        int begun = 0;
        String[] lines = all.split("\n");
        for (int i = 0; i < lines.length; i++) {
            if (lines[i].matches(" {4}(?: {4})?(?!.*\\bclass\\b)[^ /*}].*\\(.*\\) \\{")) {
                begun = i;
                open++;
            }
            if (lines[i].equals("    }") || lines[i].equals("        }")) {
                due.holds("a method of some sixty lines ends at " + (i + 1), i - begun <= 60 || begun == 0);
                begun = 0;
            }
            due.holds("line " + (i + 1) + " is not too long", lines[i].length() <= 120);
        }
        due.holds("methods were seen: " + open, open > 100);
    }
}
