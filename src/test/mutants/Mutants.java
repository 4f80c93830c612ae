import java.io.IOException;
import java.io.OutputStream;
import java.io.PrintStream;
import java.lang.reflect.Field;
import java.lang.reflect.Method;
import java.net.URL;
import java.net.URLClassLoader;
import java.nio.file.Files;
import java.nio.file.Path;
import java.util.ArrayList;
import java.util.List;
import java.util.Set;
import java.util.TreeSet;
import java.util.concurrent.ExecutorService;
import java.util.concurrent.Executors;
import java.util.concurrent.Future;
import java.util.concurrent.TimeUnit;
import java.util.concurrent.TimeoutException;
import javax.tools.JavaCompiler;
import javax.tools.ToolProvider;

/**
 * Breaks HotStack.java in each way that mutants.txt tells, and asks whether the tests of the sentences see it.
 * Run by hand, from the project's directory: java src/test/mutants/Mutants.java
 */
public final class Mutants {
    private static final String[] TESTS = {"LoadsEdgesTest", "DaysEdgesTest", "LayingEdgesTest", "DeedsEdgesTest",
        "ActsEdgesTest"};
    private static final int[] FIRST = {1, 9, 17, 25, 34};
    private static final int[] LAST = {8, 16, 24, 33, 43};
    private static final Path MAIN = Path.of("src/main/java/HotStack.java");
    private static final Path OWN = Path.of("src/test/java");
    private static final Path LIST = Path.of("src/test/mutants/mutants.txt");
    private static final JavaCompiler JAVAC = ToolProvider.getSystemJavaCompiler();

    private final List<String> sentences = new ArrayList<>();
    private final StringBuilder old = new StringBuilder();
    private final StringBuilder now = new StringBuilder();

    public static void main(String[] args) throws Exception {
        PrintStream out = System.out;
        System.setOut(new PrintStream(OutputStream.nullOutputStream()));
        Path base = Files.createTempDirectory("mutants");
        String source = Files.readString(MAIN);
        Path tests = compiledTests(base);
        List<Mutants> all = read();
        ExecutorService workers = Executors.newFixedThreadPool(Runtime.getRuntime().availableProcessors(), r -> {
            Thread thread = new Thread(r);
            thread.setDaemon(true);
            return thread;
        });
        List<Future<String>> answers = new ArrayList<>();
        for (int i = 0; i < all.size(); i++) {
            Mutants mutant = all.get(i);
            Path place = base.resolve("mutant" + i);
            answers.add(workers.submit(() -> mutant.tried(source, place, tests)));
        }
        int unseen = 0;
        for (int i = 0; i < all.size(); i++) {
            String answer = answerOf(answers.get(i));
            if (!answer.isEmpty()) {
                unseen++;
                out.println(all.get(i).sentences + "\n-" + all.get(i).old + "\n+" + all.get(i).now + "\n" + answer + "\n");
            }
        }
        out.println(all.size() + " mutants, " + unseen + " not seen by the tests of their sentences");
        System.exit(unseen == 0 ? 0 : 1);
    }

    /** A mutant that runs on for ever is seen, too. */
    private static String answerOf(Future<String> answer) throws Exception {
        try {
            return answer.get(120, TimeUnit.SECONDS);
        } catch (TimeoutException e) {
            return "";
        }
    }

    private static List<Mutants> read() throws IOException {
        List<Mutants> all = new ArrayList<>();
        Mutants mutant = new Mutants();
        for (String line : Files.readAllLines(LIST)) {
            if (line.isEmpty() && mutant.sentences.size() > 0) {
                all.add(mutant);
                mutant = new Mutants();
            } else if (line.startsWith("= ")) {
                mutant.sentences.add("promise " + line.substring(2).replaceFirst(" ", ", "));
            } else if (line.startsWith("-")) {
                mutant.old.append(mutant.old.length() > 0 ? "\n" : "").append(line.substring(1));
            } else if (line.startsWith("+")) {
                mutant.now.append(mutant.now.length() > 0 ? "\n" : "").append(line.substring(1));
            }
        }
        if (mutant.sentences.size() > 0) {
            all.add(mutant);
        }
        return all;
    }

    private static Path compiledTests(Path base) throws IOException {
        Path original = Files.createDirectories(base.resolve("original"));
        Path tests = Files.createDirectories(base.resolve("tests"));
        JAVAC.run(null, OutputStream.nullOutputStream(), OutputStream.nullOutputStream(), "-d", original.toString(),
            MAIN.toString());
        List<String> told = new ArrayList<>(List.of("-cp", original.toString(), "-d", tests.toString(),
            OWN.resolve("Due.java").toString()));
        for (String test : TESTS) {
            told.add(OWN.resolve(test + ".java").toString());
        }
        JAVAC.run(null, OutputStream.nullOutputStream(), OutputStream.nullOutputStream(), told.toArray(new String[0]));
        return tests;
    }

    /** What is wrong with the tests, told by this mutant; nothing, if each of its sentences sees it. */
    private String tried(String source, Path place, Path tests) throws Exception {
        int at = source.indexOf(old.toString());
        if (at < 0 || source.indexOf(old.toString(), at + 1) >= 0) {
            return "the text is not in HotStack.java just once";
        }
        Files.createDirectories(place);
        Path file = place.resolve("HotStack.java");
        Files.writeString(file, source.substring(0, at) + now + source.substring(at + old.length()));
        int code = JAVAC.run(null, OutputStream.nullOutputStream(), OutputStream.nullOutputStream(), "-proc:none", "-d",
            place.toString(), file.toString());
        if (code != 0) {
            return "it does not compile";
        }
        Set<String> failed = failedBy(place, tests);
        for (String sentence : sentences) {
            String promise = sentence.substring(0, sentence.indexOf(',') + 1);
            String words = sentence.substring(sentence.indexOf(',') + 2);
            if (failed.stream().noneMatch(f -> f.startsWith(promise) && f.contains(words))) {
                return "not seen by " + sentence + ", but by " + failed;
            }
        }
        return "";
    }

    private static Set<String> failedBy(Path place, Path tests) throws Exception {
        Set<String> failed = new TreeSet<>();
        URL[] classes = {place.toUri().toURL(), tests.toUri().toURL()};
        try (URLClassLoader loader = new URLClassLoader(classes, ClassLoader.getPlatformClassLoader())) {
            for (int i = 0; i < TESTS.length; i++) {
                Class<?> test = loader.loadClass(TESTS[i]);
                Field field = test.getDeclaredField("due");
                field.setAccessible(true);
                Object due = field.get(null);
                Method run = due.getClass().getDeclaredMethod("sentencesOf", Class.class, int.class, int.class);
                run.setAccessible(true);
                run.invoke(due, test, FIRST[i], LAST[i]);
                Method told = due.getClass().getDeclaredMethod("failedParts");
                told.setAccessible(true);
                for (Object part : (Set<?>) told.invoke(due)) {
                    failed.add(part.toString());
                }
            }
        }
        return failed;
    }
}
