import java.io.IOException;
import java.io.OutputStream;
import java.io.PrintStream;
import java.net.URL;
import java.net.URLClassLoader;
import java.nio.file.Files;
import java.nio.file.Path;
import java.util.ArrayList;
import java.util.List;
import java.util.Map;
import java.util.TreeMap;
import java.util.concurrent.Callable;
import java.util.concurrent.ExecutorService;
import java.util.concurrent.Executors;
import java.util.concurrent.Future;
import java.util.concurrent.FutureTask;
import java.util.concurrent.TimeUnit;
import java.util.concurrent.TimeoutException;
import java.util.regex.Matcher;
import java.util.regex.Pattern;
import javax.tools.JavaCompiler;
import javax.tools.ToolProvider;

/**
 * Breaks the class in one place at a time, and runs the tests of sentences on each broken class: each test is to fail
 * on one of them at least, and each broken class that fails no test is told, to be looked at by a person.
 */
public final class Mutants {
    private static final Path SOURCE = Path.of("src/main/java/RateGate.java");
    private static final Path TESTS = Path.of("src/test/java");
    private static final int MOST_SECONDS = 30;

    /** What is looked for, and what it is replaced by; $ and groups as in Matcher.replaceFirst. */
    private static final String[][] BREAKS = {
        {" < ", " <= "}, {" < ", " > "}, {" <= ", " < "}, {" <= ", " >= "}, {" > ", " >= "}, {" > ", " < "},
        {" >= ", " > "}, {" >= ", " <= "}, {" == ", " != "}, {" != ", " == "}, {" && ", " || "}, {" \\|\\| ", " && "},
        {" \\+ ", " - "}, {" - ", " + "}, {" \\* ", " + "}, {" / ", " * "}, {" % ", " / "}, {"\\(!", "("}, {" !", " "},
        {"\\+= ", "= "}, {"\\+= ", "-= "}, {"\\btrue\\b", "false"}, {"\\bfalse\\b", "true"}, {"\\+\\+;", "--;"},
        {"(?m)^( +)[a-zA-Z.]+(\\[[a-z]+\\])? [+]?= .*;$", "$1;"}, {"(?m)^( +)[a-zA-Z.]+\\(.*\\);$", "$1;"},
        {"(?m)^( +)[a-zA-Z]+\\+\\+;$", "$1;"}, {"Math\\.abs", ""}, {"Math\\.max\\(0, ", "Math.min(0, "},
        {"Math\\.max\\(0, ", "Math.max(1, "}, {"new IllegalStateException", "new IllegalArgumentException"},
        {"new IllegalArgumentException", "new IllegalStateException"},
        {"new IndexOutOfBoundsException", "new IllegalArgumentException"}, {"\"([A-Z]+)\"", "\"Q$1\""},
        {"'A'", "'B'"}, {"'Z'", "'Y'"}, {"'Z'", "'z'"}, {"'9'", "'8'"}, {"'9'", "':'"}, {"'='", "'>'"}, {"';'", "':'"},
        {"'Y'", "'N'"}, {"'N'", "'Y'"}, {"return (LIMITED|REFUSED|FAILED);", "return -9;"},
        {"FRESH_QUOTE_COST;", "OTHER_CALL_COST;"}, {"\\bint before = .*;", "int before = 0;"},
        {"return before;", "return 0;"}, {"\\bnow\\b(?! [-+]?=)", "(now - 1)"}, {"\\bnow\\b(?! [-+]?=)", "(now + 1)"},
        {"return [a-zA-Z.]+;", "return 0;"}, {"return ([^;]*);", "return 1 + $1;"},
        {"return ([a-zA-Z.(), ]+);", "return !$1;"}, {"\\b(shipper|carrier|from|to) == ", "1 == 1 || $1 == "},
    };

    private final List<String> broken = new ArrayList<>();
    private final List<String> names = new ArrayList<>();

    public static void main(String[] args) throws Exception {
        PrintStream out = System.out;
        System.setOut(new PrintStream(OutputStream.nullOutputStream()));
        Mutants mutants = new Mutants();
        mutants.breakSource(Files.readString(SOURCE));
        boolean isRight = mutants.runAll(out);
        // A broken class may run on without an end in a thread that nothing stops.
        Runtime.getRuntime().halt(isRight ? 0 : 1);
    }

    private void breakSource(String source) {
        for (String[] pair : BREAKS) {
            Matcher matcher = Pattern.compile(pair[0]).matcher(source);
            while (matcher.find()) {
                StringBuilder text = new StringBuilder(source.substring(0, matcher.start()));
                text.append(Pattern.compile(pair[0]).matcher(matcher.group()).replaceFirst(pair[1]));
                add(source, matcher.start(), text.append(source.substring(matcher.end())).toString());
            }
        }
        Matcher number = Pattern.compile("(?<![\\w.'])\\d+(?![\\w.'])").matcher(source);
        while (number.find()) {
            for (int step = -1; step <= 1; step += 2) {
                long changed = Long.parseLong(number.group()) + step;
                String text = source.substring(0, number.start()) + changed + source.substring(number.end());
                add(source, number.start(), text);
            }
        }
    }

    private void add(String source, int place, String text) {
        int start = source.lastIndexOf('\n', place) + 1;
        String line = source.substring(start, source.indexOf('\n', place));
        if (line.trim().startsWith("/") || line.trim().startsWith("*") || text.equals(source)) {
            return;
        }
        int lineNumber = source.substring(0, start).split("\n", -1).length;
        String changed = text.substring(start, text.indexOf('\n', place));
        broken.add(text);
        names.add(lineNumber + ": " + line.trim() + "  =>  " + changed.trim());
    }

    private boolean runAll(PrintStream out) throws Exception {
        Map<String, Integer> failures = new TreeMap<>();
        for (String test : failedTests(Files.readString(SOURCE), true)) {
            failures.put(test, 0);
        }
        ExecutorService pool = Executors.newFixedThreadPool(Runtime.getRuntime().availableProcessors());
        List<Future<List<String>>> results = new ArrayList<>();
        for (String text : broken) {
            results.add(pool.submit(() -> failedTests(text, false)));
        }
        int compiled = 0;
        for (int i = 0; i < results.size(); i++) {
            List<String> failed = results.get(i).get();
            compiled += failed == null ? 0 : 1;
            if (failed != null && failed.isEmpty()) {
                out.println("no test fails: " + names.get(i));
            }
            for (String test : failed == null ? new ArrayList<String>() : failed) {
                failures.merge(test, 1, Integer::sum);
            }
        }
        boolean isRight = true;
        for (Map.Entry<String, Integer> entry : failures.entrySet()) {
            if (entry.getValue() == 0) {
                out.println("fails on no broken class: " + entry.getKey());
                isRight = false;
            }
        }
        out.println(failures.size() + " tests, " + compiled + " broken classes");
        return isRight;
    }

    /** The tests that fail with this text of the class, or all tests; null if it does not compile. */
    private static List<String> failedTests(String text, boolean isForAll) throws Exception {
        Path folder = Files.createTempDirectory("mutant");
        try {
            Path source = folder.resolve("RateGate.java");
            Files.writeString(source, text);
            if (!isCompiled(folder, source)) {
                return null;
            }
            Callable<List<String>> run = () -> runTests(folder, isForAll);
            FutureTask<List<String>> task = new FutureTask<>(run);
            Thread thread = new Thread(task);
            thread.setDaemon(true);
            thread.start();
            return task.get(MOST_SECONDS, TimeUnit.SECONDS);
        } catch (TimeoutException e) {
            return List.of("(a test that does not end)");
        } finally {
            delete(folder);
        }
    }

    private static boolean isCompiled(Path folder, Path source) throws IOException {
        List<String> arguments = new ArrayList<>(List.of("-proc:none", "-nowarn", "-d", folder.toString()));
        arguments.add(source.toString());
        for (String name : List.of("Answers", "Holds", "Sentences", "GateCalls", "RequestSentencesTest",
                "SettingSentencesTest", "CallSentencesTest", "ParcelSentencesTest")) {
            arguments.add(TESTS.resolve(name + ".java").toString());
        }
        JavaCompiler compiler = ToolProvider.getSystemJavaCompiler();
        OutputStream nowhere = OutputStream.nullOutputStream();
        return compiler.run(null, nowhere, nowhere, arguments.toArray(new String[0])) == 0;
    }

    private static List<String> runTests(Path folder, boolean isForAll) throws Exception {
        List<String> found = new ArrayList<>();
        URL[] urls = {folder.toUri().toURL()};
        try (URLClassLoader loader = new URLClassLoader(urls, ClassLoader.getPlatformClassLoader())) {
            Class<?> sentences = loader.loadClass("Sentences");
            for (String name : List.of("Request", "Setting", "Call", "Parcel")) {
                Class<?> tests = loader.loadClass(name + "SentencesTest");
                String method = isForAll ? "testsOf" : "runAll";
                var call = sentences.getDeclaredMethod(method, Class.class);
                call.setAccessible(true);
                for (Object test : (List<?>) call.invoke(null, tests)) {
                    found.add(test instanceof java.lang.reflect.Method one ? one.getName() : test.toString());
                }
            }
        }
        return found;
    }

    private static void delete(Path folder) throws IOException {
        try (var files = Files.walk(folder)) {
            List<Path> paths = new ArrayList<>(files.toList());
            for (int i = paths.size() - 1; i >= 0; i--) {
                Files.delete(paths.get(i));
            }
        }
    }
}
