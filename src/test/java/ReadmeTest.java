import java.io.IOException;
import java.lang.reflect.Field;
import java.lang.reflect.Method;
import java.lang.reflect.Modifier;
import java.nio.charset.StandardCharsets;
import java.nio.file.Files;
import java.nio.file.Path;
import java.util.ArrayList;
import java.util.Comparator;
import java.util.List;
import java.util.regex.Matcher;
import java.util.regex.Pattern;
import java.util.stream.Stream;

/** Does what README.md tells a reader to do: its program prints what the page says, and what it names is there. */
public final class ReadmeTest {
    private static final Path TESTS = Path.of("src/test/java");

    public static void main(String[] args) throws IOException, InterruptedException {
        String page = Files.readString(Path.of("README.md"));
        programPrintsWhatThePageSays(page);
        commandsAreThere(page);
        filesAreThere(page);
        testsAreNamed(page);
        testsThatAreNamedAreThere(page);
        faceIsNamed(page);
        Answers.end();
    }

    /** The blocks of the page in a language, without the lines that fence them. */
    private static List<String> blocks(String page, String language) {
        List<String> found = new ArrayList<>();
        Matcher block = Pattern.compile("(?sm)^```" + language + "\n(.*?)^```$").matcher(page);
        while (block.find()) {
            found.add(block.group(1));
        }
        return found;
    }

    /** Follows the page in an empty folder, command by command. */
    private static void programPrintsWhatThePageSays(String page) throws IOException, InterruptedException {
        List<String> programs = blocks(page, "java");
        List<String> commands = blocks(page, "sh");
        List<String> outputs = blocks(page, "text");
        boolean isWhole = programs.size() == 1 && outputs.size() == 1 && !commands.isEmpty();
        Answers.due("the page has a program, commands and an output", isWhole, true);
        if (!isWhole) {
            return;
        }
        Path folder = Files.createTempDirectory("readme");
        try {
            Files.copy(Path.of("src/main/java/RateGate.java"), folder.resolve("RateGate.java"));
            Files.writeString(folder.resolve("Ship.java"), programs.get(0));
            Answers.due("the program of the page prints", outputOf(folder, commands.get(0)), outputs.get(0));
        } finally {
            delete(folder);
        }
    }

    /** What the commands print, up to the first one that fails, and how they end if one does. */
    private static String outputOf(Path folder, String commands) throws IOException, InterruptedException {
        Process process = new ProcessBuilder("bash", "-e", "-c", commands)
                .directory(folder.toFile()).redirectError(ProcessBuilder.Redirect.INHERIT).start();
        process.getOutputStream().close();
        String output = new String(process.getInputStream().readAllBytes(), StandardCharsets.UTF_8);
        int code = process.waitFor();
        return code == 0 ? output : output + "and ends with exit code " + code;
    }

    private static void delete(Path folder) throws IOException {
        try (Stream<Path> files = Files.walk(folder)) {
            for (Path path : files.sorted(Comparator.reverseOrder()).toList()) {
                Files.delete(path);
            }
        }
    }

    private static void commandsAreThere(String page) {
        for (String name : List.of(".ci/run", ".ci/mutants")) {
            Answers.due("the page tells to run " + name, blocks(page, "sh").contains(name + "\n"), true);
            Answers.due(name + " can be run", Files.isExecutable(Path.of(name)), true);
        }
    }

    private static void filesAreThere(String page) {
        Matcher name = Pattern.compile("`((?:\\.\\./|src/)[\\w./]*)`").matcher(page);
        while (name.find()) {
            Answers.due(name.group(1) + " is there", Files.exists(Path.of(name.group(1))), true);
        }
    }

    private static void testsAreNamed(String page) throws IOException {
        try (Stream<Path> files = Files.list(TESTS)) {
            for (Path file : files.sorted().toList()) {
                String name = file.getFileName().toString().replace(".java", "");
                boolean isNamed = !name.endsWith("Test") || page.contains("`" + name + "`");
                Answers.due("the page names " + name, isNamed, true);
            }
        }
    }

    private static void testsThatAreNamedAreThere(String page) {
        Matcher name = Pattern.compile("`(\\w+Test)`").matcher(page);
        while (name.find()) {
            Answers.due(name.group(1) + " is there", Files.exists(TESTS.resolve(name.group(1) + ".java")), true);
        }
    }

    private static void faceIsNamed(String page) {
        for (Method method : RateGate.class.getDeclaredMethods()) {
            if (Modifier.isPublic(method.getModifiers())) {
                Matcher call = Pattern.compile("`" + method.getName() + "\\(([^)]*)\\)`").matcher(page);
                int parameters = call.find() ? countNames(call.group(1)) : -1;
                Answers.due("the page's parameters of " + method.getName(), parameters, method.getParameterCount());
            }
        }
        for (Field field : RateGate.class.getDeclaredFields()) {
            boolean isOfTheFace = Modifier.isPublic(field.getModifiers()) && !field.getName().equals("NONE");
            boolean isNamed = page.contains("`" + field.getName() + "`");
            Answers.due("the page names " + field.getName(), isNamed || !isOfTheFace, true);
        }
    }

    private static int countNames(String names) {
        return names.isEmpty() ? 0 : names.split(", ").length;
    }
}
