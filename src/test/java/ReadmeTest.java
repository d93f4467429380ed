import java.io.IOException;
import java.io.StringWriter;
import java.net.URL;
import java.net.URLClassLoader;
import java.nio.charset.StandardCharsets;
import java.nio.file.Files;
import java.nio.file.Path;
import java.util.ArrayList;
import java.util.Comparator;
import java.util.List;
import java.util.Set;
import java.util.TreeSet;
import java.util.regex.Matcher;
import java.util.regex.Pattern;
import java.util.stream.Stream;
import javax.tools.JavaCompiler;
import javax.tools.ToolProvider;

/**
 * README.md shows calls that compile with the class and answer what it says; its tables and its list of
 * tests name what there is. .ci/run starts it in the project's folder.
 */
public final class ReadmeTest {
    private static final Pattern ANSWERED = Pattern.compile("\\s*(\\S.*?);\\s*// (.+?)(: .*)?");
    private static final Pattern DECLARED = Pattern.compile("\\s*(DialTrain|int|long|float|double) \\w+ = .*;");
    private static final Pattern CALL_NAMED = Pattern.compile("`(\\w+\\([^`]*\\))`");
    private static final Pattern REFUSAL_NAMED = Pattern.compile("\\| `([A-Z]+)` \\| (\\S+) \\|.*");
    private static final Pattern FILE_NAMED = Pattern.compile("`(src/[\\w/]+\\.java)`");
    private static final Pattern METHOD = Pattern.compile("    public (?:int|long) (\\w+)\\(([^)]*)\\) \\{");
    private static final Pattern CONSTANT = Pattern.compile("([A-Z]+) = (-\\d+)");

    private static final Path TESTS = Path.of("src/test/java");

    private static final Due due = new Due();

    /** A block of Java: the number of the line before it, and its lines. */
    private record Block(int before, List<String> lines) {
    }

    public static void main(String[] args) throws IOException {
        List<String> readme = Files.readAllLines(Path.of("README.md"), StandardCharsets.UTF_8);
        String source = Files.readString(Path.of("src/main/java/DialTrain.java"), StandardCharsets.UTF_8);
        List<Block> blocks = javaBlocks(readme);
        due.part("README.md");
        everyCallIsShown(blocks, source);
        callsAreNamedAsTheyAre(readme, source);
        refusalsAreNamedAsTheyAre(readme, source);
        testsAreNamedAsTheyAre(readme);
        compileAndAsk(blocks);
        due.end();
    }

    /** The compiled calls of README.md answer here; it is public as they are loaded by themselves. */
    public static void answer(int line, String call, long got, long told) {
        due.part("README.md, line " + line);
        due.is(call, got, told);
    }

    public static void answer(int line, String call, double got, double told) {
        due.part("README.md, line " + line);
        due.is(call, got, told);
    }

    private static List<Block> javaBlocks(List<String> readme) {
        List<Block> blocks = new ArrayList<>();
        Block open = null;
        for (int at = 0; at < readme.size(); at++) {
            String line = readme.get(at);
            if (line.equals("```java")) {
                open = new Block(at + 1, new ArrayList<>());
                blocks.add(open);
            } else if (line.startsWith("```")) {
                open = null;
            } else if (open != null) {
                open.lines().add(line);
            }
        }
        return blocks;
    }

    private static void same(String what, Set<String> named, Set<String> there) {
        if (!named.equals(there)) {
            due.fault(what + " are " + there + ", but it names " + named);
        }
    }

    /** As the class declares them, without types. */
    private static Set<String> calls(String source) {
        Set<String> calls = new TreeSet<>();
        Matcher method = METHOD.matcher(source);
        while (method.find()) {
            calls.add(method.group(1) + "(" + method.group(2).replaceAll("(int|long) ", "") + ")");
        }
        return calls;
    }

    private static void everyCallIsShown(List<Block> blocks, String source) {
        StringBuilder all = new StringBuilder();
        for (Block block : blocks) {
            all.append(String.join("\n", block.lines())).append('\n');
        }
        for (String call : calls(source)) {
            String name = call.substring(0, call.indexOf('(') + 1);
            if (!all.toString().contains("x." + name)) {
                due.fault("no call of " + name + ") is shown");
            }
        }
    }

    /** The table has every call; calls with numbers stand in the blocks of Java alone, where they are asked. */
    private static void callsAreNamedAsTheyAre(List<String> readme, String source) {
        Set<String> there = calls(source);
        Set<String> inTable = new TreeSet<>();
        for (String line : readme) {
            Matcher call = CALL_NAMED.matcher(line);
            while (call.find()) {
                if (call.start() == "| ".length()) {
                    inTable.add(call.group(1));
                } else if (!there.contains(call.group(1))) {
                    due.fault("there is no " + call.group(1));
                }
            }
        }
        same("the calls", inTable, there);
    }

    private static void refusalsAreNamedAsTheyAre(List<String> readme, String source) {
        Set<String> named = new TreeSet<>();
        for (String line : readme) {
            Matcher refusal = REFUSAL_NAMED.matcher(line);
            if (refusal.matches()) {
                named.add(refusal.group(1) + " = " + refusal.group(2));
            }
        }
        Set<String> there = new TreeSet<>();
        Matcher constant = CONSTANT.matcher(source.lines().filter(s -> s.contains("public static final int")).findFirst().orElse(""));
        while (constant.find()) {
            there.add(constant.group());
        }
        same("the refusals", named, there);
    }

    private static void testsAreNamedAsTheyAre(List<String> readme) throws IOException {
        Set<String> named = new TreeSet<>();
        for (String line : readme) {
            Matcher file = FILE_NAMED.matcher(line);
            while (file.find()) {
                named.add(file.group(1));
            }
        }
        for (String file : named) {
            if (!Files.isRegularFile(Path.of(file))) {
                due.fault("there is no file " + file);
            }
        }
        try (Stream<Path> files = Files.list(TESTS)) {
            files.map(file -> TESTS + "/" + file.getFileName()).filter(file -> file.endsWith("Test.java") && !named.contains(file))
                    .forEach(file -> due.fault("it does not name the test " + file));
        }
    }

    private static void compileAndAsk(List<Block> blocks) throws IOException {
        Path out = Files.createTempDirectory("readme");
        try {
            Path file = out.resolve("ReadmeCalls.java");
            Files.writeString(file, program(blocks), StandardCharsets.UTF_8);
            if (compiles(file, out)) {
                ask(out);
            }
        } finally {
            delete(out);
        }
    }

    /** Each block twice: as it is shown, which must compile, and with its answers, to be asked. */
    private static String program(List<Block> blocks) {
        StringBuilder shown = new StringBuilder();
        StringBuilder asked = new StringBuilder();
        for (Block block : blocks) {
            shown.append("  static void shown").append(block.before()).append("() {\n")
                    .append(String.join("\n", block.lines())).append("\n  }\n");
            asked.append("    {\n").append(withAnswers(block)).append("    }\n");
        }
        return "public final class ReadmeCalls {\n" + shown + "  public static void ask() {\n" + asked + "  }\n}\n";
    }

    private static String withAnswers(Block block) {
        StringBuilder code = new StringBuilder();
        for (int at = 0; at < block.lines().size(); at++) {
            String line = block.lines().get(at);
            int number = block.before() + at + 1;
            Matcher answered = ANSWERED.matcher(line);
            if (answered.matches()) {
                String call = answered.group(1);
                code.append("      ReadmeTest.answer(").append(number).append(", \"").append(call.replace("\"", "\\\"")).append("\", ")
                        .append(call).append(", ").append(answered.group(2)).append(");\n");
            } else if (line.isBlank() || DECLARED.matcher(line).matches()) {
                code.append("      ").append(line).append('\n');
            } else {
                due.fault("line " + number + " shows no answer: " + line);
            }
        }
        return code.toString();
    }

    private static boolean compiles(Path file, Path out) {
        JavaCompiler javac = ToolProvider.getSystemJavaCompiler();
        if (javac == null) {
            due.fault("this java has no compiler: a JDK is needed");
            return false;
        }
        StringWriter said = new StringWriter();
        List<String> options = List.of("--release", "17", "-proc:none", "-implicit:none", "-sourcepath", out.toString(),
                "-cp", System.getProperty("java.class.path"), "-d", out.toString());
        try (var files = javac.getStandardFileManager(null, null, StandardCharsets.UTF_8)) {
            if (javac.getTask(said, files, null, options, null, files.getJavaFileObjects(file)).call()) {
                return true;
            }
        } catch (IOException e) {
            said.append(e.toString());
        }
        due.fault("what it shows does not compile:\n" + said);
        return false;
    }

    private static void ask(Path out) throws IOException {
        int before = due.calls();
        try (URLClassLoader loader = new URLClassLoader(new URL[] {out.toUri().toURL()}, ReadmeTest.class.getClassLoader())) {
            loader.loadClass("ReadmeCalls").getMethod("ask").invoke(null);
        } catch (ReflectiveOperationException e) {
            due.fault("its calls could not be asked: " + (e.getCause() == null ? e : e.getCause()));
        }
        if (due.calls() == before) {
            due.part("README.md");
            due.fault("it shows no calls");
        }
    }

    private static void delete(Path folder) throws IOException {
        try (Stream<Path> all = Files.walk(folder)) {
            for (Path path : all.sorted(Comparator.reverseOrder()).toList()) {
                Files.delete(path);
            }
        }
    }
}
