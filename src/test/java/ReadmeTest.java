import java.lang.reflect.Method;
import java.lang.reflect.Modifier;
import java.nio.file.Files;
import java.nio.file.Path;
import java.util.Set;
import java.util.TreeSet;
import java.util.regex.Matcher;
import java.util.regex.Pattern;

/** README.md: its calls answer as it says, it tells each call of the face and the refusals that the document names. */
public final class ReadmeTest {
    private static final Due due = new Due();
    private static final Pattern CALL = Pattern.compile("x\\.(\\w+)\\((.*?)\\);\\s*// (-?\\d+)(?!\\d).*");
    private static final Pattern REFUSAL =
            Pattern.compile("-11 to -13|-1[1-4](?!\\d)|Long\\.MIN_VALUE|\\b(?:BAD|NOT|FULL|STATE|VOID)\\b");
    private static final Pattern PROMISE = Pattern.compile("(?s)## Promise \\d+: (\\w+)\\s+`(.*?)`:(.*?)(?=\\n## )");

    public static void main(String[] args) throws Exception {
        String readme = Files.readString(Path.of("README.md"));
        String document = Files.readString(Path.of("../shared/DOC.md"));
        calls(readme);
        rows(readme, document);
        refusals(readme);
        looks(readme);
        due.finish("ReadmeTest");
    }

    private static void calls(String readme) throws Exception {
        due.part("README.md, calls");
        HotStack x = null;
        int asked = 0;
        for (String line : readme.split("\n")) {
            if (line.equals("HotStack x = new HotStack();")) {
                x = new HotStack();
            }
            if (!line.startsWith("x.")) {
                continue;
            }
            Matcher m = CALL.matcher(line);
            if (!m.matches() || x == null) {
                due.holds("a call with its answer: " + line, false);
                continue;
            }
            due.due(line, asked(x, m.group(1), m.group(2)), Long.parseLong(m.group(3)));
            asked++;
        }
        due.holds("calls were seen: " + asked, asked > 40);
    }

    private static long asked(HotStack x, String name, String told) throws Exception {
        String[] numbers = told.isEmpty() ? new String[0] : told.split(", ");
        Method call = methodOf(name);
        Object[] values = new Object[numbers.length];
        for (int i = 0; i < numbers.length; i++) {
            long v = numbers[i].startsWith("'") ? numbers[i].charAt(1) : Long.parseLong(numbers[i]);
            values[i] = call.getParameterTypes()[i] == long.class ? (Object) v : (Object) (int) v;
        }
        return ((Number) call.invoke(x, values)).longValue();
    }

    private static Method methodOf(String name) {
        for (Method m : HotStack.class.getMethods()) {
            if (m.getName().equals(name) && m.getDeclaringClass() == HotStack.class) {
                return m;
            }
        }
        throw new IllegalArgumentException("no call " + name);
    }

    /** The row of README.md that tells a call, or null: its call, its answer, its numbers, its refusals. */
    private static String[] rowOf(String readme, String face) {
        for (String line : readme.split("\n")) {
            if (line.startsWith("| `" + face + "`")) {
                return line.split("\\|", -1);
            }
        }
        return null;
    }

    private static Set<String> refusalsIn(String text) {
        Set<String> found = new TreeSet<>();
        Matcher m = REFUSAL.matcher(text);
        while (m.find()) {
            if (m.group().equals("-11 to -13")) {
                found.add("-11");
                found.add("-12");
                found.add("-13");
            } else {
                found.add(m.group());
            }
        }
        return found;
    }

    private static void rows(String readme, String document) {
        due.part("README.md, rows of calls");
        Matcher m = PROMISE.matcher(document);
        int seen = 0;
        while (m.find()) {
            String[] row = rowOf(readme, m.group(2));
            due.holds("a row with four columns of " + m.group(2), row != null && row.length == 6);
            if (row != null && row.length == 6) {
                Set<String> want = refusalsIn(m.group(3));
                due.holds(m.group(1) + " is refused by " + want + ", README.md says " + row[4],
                        refusalsIn(row[4]).equals(want));
                seen++;
            }
        }
        due.due("calls of the document", seen, 42);
    }

    private static void refusals(String readme) throws Exception {
        due.part("README.md, refusals");
        for (String name : new String[] {"BAD", "NOT", "FULL", "STATE", "VOID"}) {
            int number = HotStack.class.getField(name).getInt(null);
            due.holds(name + " with its number", readme.contains("\n| " + name + " | " + number + " | "));
        }
        due.holds("Long.MIN_VALUE", readme.contains("\n| Long.MIN_VALUE | " + Long.MIN_VALUE + " | "));
        for (int number = -11; number >= -14; number--) {
            due.holds("the host's " + number, readme.contains("\n| " + number + " | " + number + " | "));
        }
    }

    /** A call that the page does not mark by a * only looks: what was there is there behind it. */
    private static void looks(String readme) throws Exception {
        due.part("README.md, calls that only look");
        int seen = 0;
        for (Method m : HotStack.class.getDeclaredMethods()) {
            if (!Modifier.isPublic(m.getModifiers()) || isMarked(readme, m.getName())) {
                continue;
            }
            HotStack x = Due.withAll();
            for (int i = 0; i < 27; i++) {
                int[] told = {i % 3 * 5, i / 3 % 3, i / 9, 0, 1};
                Object[] values = new Object[m.getParameterCount()];
                for (int k = 0; k < values.length; k++) {
                    values[k] = told[k] * (m.getName().equals("drawn") && k == 1 ? 10101 : 1);
                }
                m.invoke(x, values);
            }
            due.isAsWithAll(x);
            seen++;
        }
        due.due("calls that only look", seen, 23);
    }

    private static boolean isMarked(String readme, String name) {
        return Pattern.compile("\n\\| `\\w+ " + name + "\\([^`]*\\)` \\* \\|").matcher(readme).find();
    }
}
