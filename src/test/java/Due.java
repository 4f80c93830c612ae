import java.io.IOException;
import java.lang.reflect.InvocationTargetException;
import java.lang.reflect.Method;
import java.nio.file.Files;
import java.nio.file.Path;
import java.util.Arrays;
import java.util.Set;
import java.util.TreeSet;

/** What the project's tests share: counting answers that are not as due, and making stacks in few words. */
final class Due {
    private static final int MOST_SHOWN = 5;
    private static final Path DOCUMENT = Path.of("../shared/DOC.md");

    private int asked;
    private int wrong;
    private String promise = "";
    private final Set<String> failedParts = new TreeSet<>();
    private int shown;
    private String shownOf = "";
    private int sentences;
    private final int[] sentencesOf = new int[44];
    private final String document = documentInOneLine();

    void promise(int number) {
        promise = "promise " + number;
    }

    void part(String name) {
        promise = name;
    }

    /** What follows tests one sentence of a promise; its words are the document's own. */
    void sentence(int number, String words) {
        promise = "promise " + number + ", \"" + words + "\"";
        sentences++;
        sentencesOf[number]++;
        if (document != null && !document.contains(words)) {
            System.out.println("note: the document does not say (any more) of " + promise);
        }
    }

    /** Runs each method without parameters of a class of tests: each tests one sentence, all promises have some. */
    void sentencesOf(Class<?> tests, int firstPromise, int lastPromise) {
        Method[] all = tests.getDeclaredMethods();
        Arrays.sort(all, (a, b) -> a.getName().compareTo(b.getName()));
        for (Method m : all) {
            if (m.getParameterCount() == 0 && m.getReturnType() == void.class && !m.isSynthetic()) {
                runSentence(m);
            }
        }
        promise = tests.getName();
        for (int number = firstPromise; number <= lastPromise; number++) {
            holds("promise " + number + " has tests of its sentences", sentencesOf[number] > 0);
        }
    }

    private void runSentence(Method m) {
        int before = sentences;
        promise = m.getName();
        try {
            m.invoke(null);
        } catch (InvocationTargetException e) {
            holds(m.getName() + " threw nothing, but " + e.getCause(), false);
        } catch (IllegalAccessException e) {
            holds(m.getName() + " may be called", false);
        }
        holds(m.getName() + " tests one sentence", sentences == before + 1);
    }

    /** The document's text with single blanks for all white space; null where there is none at hand. */
    private static String documentInOneLine() {
        try {
            return Files.exists(DOCUMENT) ? Files.readString(DOCUMENT).replaceAll("\\s+", " ") : null;
        } catch (IOException e) {
            return null;
        }
    }

    void due(String call, long got, long want) {
        asked++;
        if (got != want) {
            wrong++;
            failedParts.add(promise);
            shown = promise.equals(shownOf) ? shown + 1 : 1;
            shownOf = promise;
            if (shown <= MOST_SHOWN) {
                System.out.println(promise + ": " + call + " answered " + got + ", due is " + want);
            }
        }
    }

    void holds(String what, boolean is) {
        due(what, is ? 1 : 0, 1);
    }

    /** The sentences, or parts, that had an answer not as due. */
    Set<String> failedParts() {
        return failedParts;
    }

    boolean failed() {
        return wrong > 0;
    }

    void finish(String name) {
        System.out.println(name + ": " + (sentences > 0 ? sentences + " sentences, " : "") + asked + " answers, "
            + wrong + " not as due");
        if (wrong > 0 || asked == 0) {
            System.exit(1);
        }
    }

    /** Numbers that are none from least to most: next to them, far off, and such as a byte or short would cut back. */
    static int[] beyond(int least, int most) {
        return new int[] {least - 1, most + 1, least - 2, most + 2, most + 256, least - 256, least + 65536,
            most - 65536, Integer.MIN_VALUE, Integer.MAX_VALUE, Integer.MIN_VALUE + 1};
    }

    /** Numbers of no CELL of a stack that has none but in COLUMN 1, two of them (5, 6), and in COLUMN 5, one (25). */
    static int[] noCells() {
        return new int[] {-1, 0, 4, 7, 9, 10, 24, 26, 29, 30, 31, 35, -5, 261, 65541, -251, Integer.MIN_VALUE,
            Integer.MAX_VALUE};
    }

    /** The stack of noCells(): CELLS 5 (DAMP 4, LOAD 1), 6 (DAMP 5, LOAD 2), 25 (DAMP 6, LOAD 3). */
    static HotStack threeCells(String law) {
        return stack(law, 141, 152, 563);
    }

    /** A stack whose law is the text; each number of loads is column * 100 + dl. */
    static HotStack stack(String law, int... loads) {
        HotStack x = new HotStack();
        tell(x, law);
        for (int load : loads) {
            x.cart(load / 100, load % 100);
        }
        return x;
    }

    /** A CELL of HEAT 99 and GOOD 7, salted, that is there no more: changes done again unseen. */
    static void hide(HotStack x, int column) {
        hide(x, column, 99, 7);
    }

    static void hide(HotStack x, int column, int heat, int good) {
        x.image();
        int cell = x.cart(column, 99);
        x.mend(cell, 1, heat);
        x.mend(cell, 2, good);
        x.mend(cell, 3, 1);
        x.back();
        for (int i = 0; i < 3; i++) {
            x.undo();
        }
        for (int i = 0; i < 3; i++) {
            x.redo();
        }
    }

    /** A stack with something of all: cells, changes, one undone, an image, two bytes, a law, bodies, a trace, shelves. */
    static HotStack withAll() {
        HotStack x = stack("d-a+l", 141, 152, 563, 11, 12, 13, 14, 15);
        x.read(5);
        x.turned(3);
        x.salt(4);
        x.day();
        x.image();
        x.day();
        x.mend(6, 1, 95);
        x.mend(2, 5, 1);
        x.mend(0, 6, 80);
        x.undo();
        x.feed('d');
        x.feed('+');
        for (int kind = 0; kind <= 5; kind++) {
            x.body(kind);
        }
        x.act(5, 3, 7);
        x.keep(1, 4);
        bytes(x, 2, 5, 9, 9, 6);
        fill(x, 3, 2, 70000, -1, 3);
        fill(x, 4, 4, 1, 0, 1);
        bytes(x, 5);
        return x;
    }

    /** What may be seen of a stack, by calls that change nothing. */
    private static long[] seen(HotStack x) {
        long[] seen = new long[400];
        int many = 0;
        for (int cell = 0; cell < 30; cell++) {
            for (int what = 0; what <= 4; what++) {
                seen[many++] = x.of(cell, what);
            }
            seen[many++] = x.heats(cell);
        }
        for (int i = 0; i <= 5; i++) {
            seen[many++] = x.of(i, 5);
            seen[many++] = x.of(i, 8);
            seen[many++] = x.led(i);
            seen[many++] = x.count(i);
            seen[many++] = x.taken(i, 0);
            for (int place = 0; place <= 4; place++) {
                seen[many++] = x.element(i, place);
            }
        }
        for (int i = 0; i < 24; i++) {
            seen[many++] = x.trace(i);
        }
        seen[many++] = x.of(0, 6);
        seen[many++] = x.of(0, 7);
        return seen;
    }

    /** Asks whether a stack that was made by withAll(), and then refused some calls, is as one that was not asked. */
    void isAsWithAll(HotStack x) {
        HotStack y = withAll();
        long[] got = seen(x);
        long[] want = seen(y);
        for (int i = 0; i < got.length; i++) {
            due("seen " + i, got[i], want[i]);
        }
        due("law", x.law(), -102);
        due("redo", x.redo(), 0);
        due("GLOWS done again", x.of(0, 6), 80);
        due("redo", x.redo(), -5);
        due("undo", x.undo(), 2);
        due("undo", x.undo(), 1);
        due("undo", x.undo(), 0);
        due("undo", x.undo(), -5);
        due("back", x.back(), 1);
        due("HEAT laid back", x.of(6, 1), 24);
        due("body", x.body(0), 6);
    }

    static int tell(HotStack x, String text) {
        if (text == null) {
            return 0;
        }
        for (int i = 0; i < text.length(); i++) {
            x.feed(text.charAt(i));
        }
        return x.law();
    }

    static void fill(HotStack x, int shelf, int sort, long... values) {
        x.row(shelf, sort, values.length);
        for (int i = 0; i < values.length; i++) {
            x.put(shelf, i, values[i]);
        }
    }

    static void bytes(HotStack x, int shelf, long... values) {
        fill(x, shelf, 0, values);
    }
}
