import java.io.IOException;
import java.lang.reflect.Method;
import java.lang.reflect.Modifier;
import java.net.URL;
import java.net.URLClassLoader;
import java.nio.file.Files;
import java.nio.file.Path;
import java.util.ArrayList;
import java.util.Comparator;
import java.util.List;
import java.util.regex.Matcher;
import java.util.regex.Pattern;
import java.util.stream.Stream;
import javax.tools.ToolProvider;

/** What README.md says is so: its calls answer as it says, its commands run the tests, what it names is there. */
public final class ReadmeTest {
    private static final Pattern ANSWERED = Pattern.compile("(?:int (\\w+) = )?(x\\..*\\));\\s*// (-?\\d+)(?::.*)?");
    private static final String HAND = "WouldBeTest";

    public static void main(String[] args) throws Exception {
        String readme = Files.readString(Path.of("README.md"));
        Path place = Files.createTempDirectory("readme");
        try {
            callsAnswerAsItSays(readme, place);
            everyCallIsShown(readme);
            commandsRunTheTests(readme, place);
            testsAreNamed(readme);
        } finally {
            removeAll(place);
        }
        Checks.close("ReadmeTest");
    }

    private static List<String> blocks(String readme, String language) {
        List<String> found = new ArrayList<>();
        Matcher block = Pattern.compile("(?s)```" + language + "\n(.*?)```").matcher(readme);
        while (block.find()) {
            found.add(block.group(1));
        }
        return found;
    }

    /** The blocks become one program that hands back every answer that README.md tells. */
    private static void callsAnswerAsItSays(String readme, Path place) throws Exception {
        List<String> calls = new ArrayList<>();
        List<Long> due = new ArrayList<>();
        StringBuilder program = new StringBuilder("public final class Shown {\npublic static void run("
                + "java.util.List<Long> got) {\n");
        for (String line : String.join("", blocks(readme, "java")).split("\n")) {
            program.append(kept(line, calls, due)).append('\n');
        }
        List<Long> got = new ArrayList<>();
        runProgram(program.append("}\n}\n").toString(), place, got);
        Checks.due("answers that README.md tells", got.size(), due.size());
        Checks.isTrue("there are some", !due.isEmpty());
        for (int i = 0; i < Math.min(got.size(), due.size()); i++) {
            Checks.due("README.md: " + calls.get(i), got.get(i), due.get(i));
        }
    }

    /** A line whose answer is told, so that the answer is kept; any other line as it is. */
    private static String kept(String line, List<String> calls, List<Long> due) {
        Matcher told = ANSWERED.matcher(line.trim());
        if (!told.matches()) {
            Checks.isTrue("an answer is told for every call that stands alone: " + line, !line.startsWith("x."));
            return line;
        }
        calls.add(told.group(2));
        due.add(Long.parseLong(told.group(3)));
        String name = told.group(1);
        return name == null
                ? "got.add((long) " + told.group(2) + ");"
                : "int " + name + " = " + told.group(2) + "; got.add((long) " + name + ");";
    }

    private static void runProgram(String program, Path place, List<Long> got) throws Exception {
        Path source = place.resolve("Shown.java");
        Files.writeString(source, program);
        int compiled = ToolProvider.getSystemJavaCompiler().run(null, null, null,
                "-cp", System.getProperty("java.class.path"), "-d", place.toString(), source.toString());
        Checks.due("README.md's calls compile", compiled, 0);
        if (compiled == 0) {
            try (URLClassLoader loader = new URLClassLoader(new URL[] {place.toUri().toURL()})) {
                loader.loadClass("Shown").getMethod("run", List.class).invoke(null, got);
            }
        }
    }

    private static void everyCallIsShown(String readme) {
        String shown = String.join("", blocks(readme, "java"));
        for (Method m : OrdersInTurn.class.getDeclaredMethods()) {
            if (Modifier.isPublic(m.getModifiers())) {
                Checks.isTrue("README.md shows " + m.getName(), shown.contains("x." + m.getName() + "("));
            }
        }
    }

    private static void commandsRunTheTests(String readme, Path place) throws Exception {
        List<String> commands = blocks(readme, "sh");
        Checks.due("commands in README.md", commands.size(), 2);
        if (commands.size() == 2) {
            // this test runs inside .ci/run, so it only looks whether that can be run
            Checks.isTrue("it can be run: " + commands.get(0), Files.isExecutable(Path.of(commands.get(0).trim())));
            copySources(place);
            Path printed = place.resolve("printed");
            int ended = new ProcessBuilder("sh", "-c", commands.get(1)).directory(place.toFile())
                    .redirectErrorStream(true).redirectOutput(printed.toFile()).start().waitFor();
            Checks.due("exit code of: " + commands.get(1), ended, 0);
            Checks.isTrue("it runs " + HAND, Files.readString(printed).startsWith(HAND + ": "));
        }
    }

    private static void copySources(Path to) throws IOException {
        for (Path from : below(Path.of("src"))) {
            if (Files.isRegularFile(from)) {
                Files.createDirectories(to.resolve(from).getParent());
                Files.copy(from, to.resolve(from));
            }
        }
    }

    private static void testsAreNamed(String readme) throws IOException {
        for (Path test : below(Path.of("src/test/java"))) {
            String name = test.getFileName().toString();
            if (name.endsWith("Test.java")) {
                Checks.isTrue("README.md names " + name, readme.contains("`" + name.replace(".java", "") + "`"));
            }
        }
        Matcher named = Pattern.compile("`(\\w+Test|Twins|Scenes|Model)`").matcher(readme);
        while (named.find()) {
            Path file = Path.of("src/test/java/" + named.group(1) + ".java");
            Checks.isTrue(file + " is there", Files.exists(file));
        }
        String source = Files.readString(Path.of("src/main/java/OrdersInTurn.java"));
        Matcher inside = Pattern.compile("`(Page|Menu|Party|Guest|Table|Forecast|Log|Image)`").matcher(readme);
        while (inside.find()) {
            Checks.isTrue("there is a class " + inside.group(1), source.contains("class " + inside.group(1) + " {"));
        }
    }

    private static List<Path> below(Path folder) throws IOException {
        try (Stream<Path> all = Files.walk(folder)) {
            return all.toList();
        }
    }

    private static void removeAll(Path folder) throws IOException {
        List<Path> all = new ArrayList<>(below(folder));
        all.sort(Comparator.reverseOrder());
        for (Path p : all) {
            Files.delete(p);
        }
    }
}
