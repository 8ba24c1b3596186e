import java.io.File;
import java.io.IOException;
import java.lang.reflect.Method;
import java.lang.reflect.Modifier;
import java.nio.charset.StandardCharsets;
import java.nio.file.Files;
import java.nio.file.Path;
import java.util.ArrayList;
import java.util.Comparator;
import java.util.List;
import java.util.Set;
import java.util.TreeSet;
import java.util.regex.Matcher;
import java.util.regex.Pattern;
import java.util.stream.Stream;
import javax.tools.ToolProvider;

/**
 * What README.md shows is so when it is tried as it stands there: its programs compile, each call answers what is told
 * behind it, its commands end well and print what it says they print.
 */
public final class ReadmeTest {
    private static final Pattern CALL = Pattern.compile("^lamp\\.(\\w+)\\((.*)\\);\\s*// ([^:]+?)\\s*(?::.*)?$");
    private static int wrong = 0;

    /** A piece of the page between two lines of three ticks. */
    private static final class Block {
        final String kind;
        final List<String> lines = new ArrayList<>();

        Block(String kind) {
            this.kind = kind;
        }

        String text() {
            return String.join("\n", lines) + "\n";
        }

        boolean isProgram() {
            return kind.equals("java") && text().contains("public class Try ");
        }

        boolean isCalls() {
            return kind.equals("java") && !isProgram();
        }
    }

    private static void check(boolean good, String what) {
        if (!good) {
            wrong++;
            System.out.println(what);
        }
    }

    private static List<Block> blocksOf(List<String> page) {
        List<Block> blocks = new ArrayList<>();
        Block open = null;
        for (String line : page) {
            if (line.startsWith("```")) {
                if (open != null) blocks.add(open);
                open = open == null ? new Block(line.substring(3)) : null;
            } else if (open != null) {
                open.lines.add(line);
            }
        }
        check(open == null, "a block is not closed");
        return blocks;
    }

    // ---- calls and what is told behind them

    private static String shownAsIs(Block block, String name) {
        StringBuilder text = new StringBuilder("public class " + name + " {\n    public static void main(String[] args) {\n");
        for (String line : block.lines) text.append("        ").append(line).append('\n');
        return text.append("    }\n}\n").toString();
    }

    private static String asked(Block block, String name, Set<String> shown) {
        StringBuilder text = new StringBuilder("public class " + name + " {\n    private static int wrong = 0;\n\n"
            + "    private static void due(String call, long got, long want) {\n        if (got == want) return;\n        wrong++;\n"
            + "        System.out.println(call + \" answered \" + got);\n    }\n\n    public static int ask() {\n");
        for (String line : block.lines) {
            Matcher m = CALL.matcher(line);
            if (m.matches()) {
                String call = "lamp." + m.group(1) + "(" + m.group(2) + ")";
                text.append("        due(\"").append(line.replace("\"", "'")).append("\", ").append(call).append(", ")
                    .append(m.group(3)).append(");\n");
                shown.add(m.group(1));
            } else {
                check(!line.trim().startsWith("lamp."), "no answer is told: " + line);
                text.append("        ").append(line).append('\n');
            }
        }
        return text.append("        return wrong;\n    }\n}\n").toString();
    }

    private static boolean compiled(Path dir, String name, String text) throws IOException {
        Path file = dir.resolve(name + ".java");
        Files.writeString(file, text);
        int code = ToolProvider.getSystemJavaCompiler().run(null, System.out, System.out, "-d", dir.toString(),
            "-cp", System.getProperty("java.class.path"), file.toString());
        check(code == 0, name + " does not compile:\n" + text);
        return code == 0;
    }

    private static void calls(List<Block> blocks, Path dir) throws IOException, ReflectiveOperationException {
        Set<String> shown = new TreeSet<>();
        int number = 0;
        for (Block block : blocks) {
            if (!block.isCalls()) continue;
            number++;
            compiled(dir, "Shown" + number, shownAsIs(block, "Shown" + number));
            String name = "Asked" + number;
            if (!compiled(dir, name, asked(block, name, shown))) continue;
            try (java.net.URLClassLoader loader = new java.net.URLClassLoader(new java.net.URL[] {dir.toUri().toURL()})) {
                wrong += (Integer) loader.loadClass(name).getMethod("ask").invoke(null);
            }
        }
        Set<String> face = new TreeSet<>();
        for (Method m : WishLamp.class.getDeclaredMethods()) if (Modifier.isPublic(m.getModifiers())) face.add(m.getName());
        face.removeAll(shown);
        check(face.isEmpty(), "calls that are not shown: " + face);
    }

    // ---- numbers that are told in the text

    private static void refusals(List<String> page) throws IllegalAccessException, NoSuchFieldException {
        Set<String> told = new TreeSet<>();
        for (String line : page) {
            Matcher row = Pattern.compile("^\\| ([A-Z]+) \\| (-\\d+) \\|.*").matcher(line);
            Matcher word = Pattern.compile("`([A-Z]+)` \\((-\\d+)\\)").matcher(line);
            Matcher m = row.matches() ? row : word.find() ? word : null;
            if (m == null) continue;
            told.add(m.group(1));
            long is = ((Number) WishLamp.class.getField(m.group(1)).get(null)).longValue();
            check(is == Long.parseLong(m.group(2)), "told is " + line);
        }
        check(told.equals(Set.of("UNKNOWN", "OUTSIDE", "NO", "STATE", "FULL", "NONE")), "numbers are told of " + told);
    }

    /** Each test is named on the page, and each test that it names is there. */
    private static void tests(String page) throws IOException {
        Set<String> named = new TreeSet<>();
        Matcher m = Pattern.compile("\\b(\\w+Test)\\b").matcher(page);
        while (m.find()) named.add(m.group(1));
        Set<String> there = new TreeSet<>();
        try (Stream<Path> files = Files.list(Path.of("src/test/java"))) {
            files.map(f -> f.getFileName().toString()).filter(f -> f.endsWith("Test.java")).forEach(f -> there.add(f.replace(".java", "")));
        }
        check(named.equals(there), "tests that are named: " + named + ", tests that are there: " + there);
    }

    // ---- commands

    private static void copy(Path from, Path to) throws IOException {
        try (Stream<Path> all = Files.walk(from)) {
            for (Path p : (Iterable<Path>) all::iterator) {
                Path target = to.resolve(from.relativize(p).toString());
                if (Files.isDirectory(p)) Files.createDirectories(target);
                else Files.copy(p, target);
            }
        }
    }

    private static String run(Path dir, Block block) throws IOException, InterruptedException {
        Path script = dir.resolve("commands.sh");
        Files.writeString(script, "set -e\n" + block.text());
        Path output = dir.resolve("output.txt");
        Process process = new ProcessBuilder("sh", script.toString()).directory(dir.toFile())
            .redirectErrorStream(true).redirectOutput(output.toFile()).start();
        int code = process.waitFor();
        String printed = Files.readString(output, StandardCharsets.UTF_8);
        check(code == 0, "ended with " + code + ":\n" + block.text() + printed);
        return printed;
    }

    /** In a copy of the project, so that nothing is left behind; all but .ci/run, which runs this test. */
    private static void commands(List<Block> blocks, Path dir) throws IOException, InterruptedException {
        copy(Path.of("src"), dir.resolve("src"));
        String printed = null;
        int texts = 0;
        boolean all = false;
        for (Block block : blocks) {
            if (block.isProgram()) Files.writeString(dir.resolve("Try.java"), block.text());
            if (block.kind.equals("sh") && block.text().equals(".ci/run\n")) {
                all = true;
                check(new File(".ci/run").canExecute(), ".ci/run can not be run");
            } else if (block.kind.equals("sh")) {
                printed = run(dir, block);
            } else if (block.kind.equals("text")) {
                texts++;
                check(block.text().equals(printed), "printed is\n" + printed + "told is\n" + block.text());
            }
        }
        check(texts > 0 && all, "the page shows no output, or not how to run all tests");
    }

    private static void remove(Path dir) throws IOException {
        try (Stream<Path> all = Files.walk(dir)) {
            for (Path p : (Iterable<Path>) all.sorted(Comparator.reverseOrder())::iterator) Files.delete(p);
        }
    }

    public static void main(String[] args) throws IOException, InterruptedException, ReflectiveOperationException {
        List<String> page = Files.readAllLines(Path.of("README.md"));
        List<Block> blocks = blocksOf(page);
        Path dir = Files.createTempDirectory("readme");
        try {
            calls(blocks, Files.createDirectory(dir.resolve("calls")));
            refusals(page);
            tests(String.join("\n", page));
            commands(blocks, Files.createDirectory(dir.resolve("commands")));
        } finally {
            remove(dir);
        }
        System.out.println(wrong == 0 ? "the page is so" : wrong + " things on the page are not so");
        if (wrong != 0) System.exit(1);
    }
}
