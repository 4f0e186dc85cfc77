import java.io.File;
import java.io.IOException;
import java.lang.reflect.Method;
import java.lang.reflect.Modifier;
import java.nio.file.Files;
import java.nio.file.Path;
import java.util.ArrayList;
import java.util.Comparator;
import java.util.List;
import java.util.regex.Matcher;
import java.util.regex.Pattern;
import java.util.stream.Stream;

/** What README.md shows compiles and answers as README.md says. */
public final class ReadmeTest {
    private static final String LANGUAGES = "java sh text";
    private static final Pattern PROGRAM = Pattern.compile("public final class (\\w+)");
    /** A call at the line's beginning, what it is kept in, and the answer and the remark that are told behind it. */
    private static final Pattern CALL = Pattern.compile(
        "(?<kept>int (?<name>\\w+) = )?(?<call>\\S.*);(\\s+// (?<answer>\"[^\"]*\"|[^:]+)(: (?<remark>.*))?)?");
    private static final Pattern ROW_THEN = Pattern.compile("the row (\\d) is (\\d+)");
    private static final Pattern LINE_THEN = Pattern.compile("the line is (\"[^\"]*\")");
    private static final String HELPERS = """
        static int wrong = 0;
        static void due(String call, Object got, Object want) {
            if (!got.equals(want)) {
                wrong = 1;
                System.out.println(call + " answers " + got + ", README.md says " + want);
            }
        }
        static String row(JugglingRows x, int row) {
            StringBuilder digits = new StringBuilder();
            for (int beat = 0; beat < x.rowOf(row, 0); beat++) {
                digits.append(x.throwAt(row, beat));
            }
            return digits.toString();
        }
        static String line(JugglingRows x) {
            StringBuilder line = new StringBuilder();
            for (int index = 0; x.sign(index) != JugglingRows.NONE; index++) {
                line.append((char) x.sign(index));
            }
            return line.toString();
        }
        """;
    private static int wrong = 0;
    private static int answers = 0;

    private record Block(String language, List<String> lines) {
        String text() {
            return String.join("\n", lines) + "\n";
        }

        boolean isPiece() {
            return language.equals("java") && !PROGRAM.matcher(text()).find();
        }

        boolean isProgram() {
            return language.equals("java") && !isPiece();
        }
    }

    private ReadmeTest() {
    }

    public static void main(String[] args) throws IOException, InterruptedException {
        List<String> readme = Files.readAllLines(Path.of("README.md"));
        List<Block> blocks = blocksOf(readme);
        Path place = Files.createTempDirectory("readme");
        try {
            pieces(blocks, place);
            programs(blocks, place);
        } finally {
            remove(place);
        }
        eachCall(blocks);
        howTestsAreRun(String.join("\n", readme));
        System.out.println(answers + " answers of README.md, " + wrong + " faults");
        if (wrong != 0) {
            System.exit(1);
        }
    }

    private static void due(boolean right, String told) {
        if (!right) {
            wrong++;
            System.out.println(told);
        }
    }

    private static List<Block> blocksOf(List<String> readme) {
        List<Block> blocks = new ArrayList<>();
        Block open = null;
        for (String line : readme) {
            if (!line.startsWith("```")) {
                if (open != null) {
                    open.lines().add(line);
                }
            } else if (open == null) {
                open = new Block(line.substring(3), new ArrayList<>());
                due(List.of(LANGUAGES.split(" ")).contains(open.language()), "a block that is not tested: " + line);
            } else {
                blocks.add(open);
                open = null;
            }
        }
        due(open == null, "the last block has no end");
        return blocks;
    }

    // ---- pieces of code, whose calls have their answers behind them

    private static void pieces(List<Block> blocks, Path place) throws IOException, InterruptedException {
        StringBuilder code = new StringBuilder("public final class ReadmePieces {\n");
        StringBuilder main = new StringBuilder();
        int many = 0;
        for (Block block : blocks) {
            if (block.isPiece()) {
                code.append("static void piece").append(many).append("() {\n");
                block.lines().forEach(line -> code.append(checked(line)).append('\n'));
                code.append("}\n");
                main.append("piece").append(many).append("();\n");
                many++;
            }
        }
        due(many > 0, "there are no pieces of code");
        code.append("public static void main(String[] args) {\n").append(main).append("System.exit(wrong);\n}\n");
        code.append(HELPERS).append("}\n");
        Files.writeString(place.resolve("ReadmePieces.java"), code);
        String own = System.getProperty("java.class.path");
        runsWell(place, "javac", "-Xlint:all", "-Werror", "-cp", own, "-d", ".", "ReadmePieces.java");
        runsWell(place, "java", "-cp", own + File.pathSeparator + ".", "ReadmePieces");
    }

    private static String checked(String line) {
        Matcher told = CALL.matcher(line);
        if (line.startsWith(" ") || !told.matches() || told.group("call").contains(" = new ")) {
            due(!line.contains("//"), "an answer that is not tested: " + line);
            return line;
        }
        if (told.group("answer") == null) {
            due(false, "a call without its answer: " + line);
            return line;
        }
        String want = told.group("answer").replaceFirst("^([A-Z]+)$", "JugglingRows.$1");
        String call = told.group("call");
        if (told.group("kept") == null) {
            return check(call, call, want) + remarked(call, told.group("remark"));
        }
        return told.group("kept") + call + "; " + check(call, told.group("name"), want) + remarked(call, told.group("remark"));
    }

    private static String remarked(String call, String remark) {
        if (remark == null) {
            return "";
        }
        StringBuilder checks = new StringBuilder();
        Matcher row = ROW_THEN.matcher(remark);
        while (row.find()) {
            checks.append(check("the row behind " + call, "row(x, " + row.group(1) + ")", "\"" + row.group(2) + "\""));
        }
        Matcher line = LINE_THEN.matcher(remark);
        while (line.find()) {
            checks.append(check("the line behind " + call, "line(x)", line.group(1)));
        }
        return checks.toString();
    }

    private static String check(String told, String got, String want) {
        answers++;
        return "due(\"" + told.replace("\\", "\\\\").replace("\"", "\\\"") + "\", " + got + ", " + want + "); ";
    }

    // ---- programs, and commands of a shell with what they print

    private static void programs(List<Block> blocks, Path place) throws IOException, InterruptedException {
        copy(Path.of("src"), place.resolve("src"));
        int programs = 0;
        int commands = 0;
        for (int number = 0; number < blocks.size(); number++) {
            Block block = blocks.get(number);
            if (block.isProgram()) {
                programs++;
                Files.writeString(place.resolve(nameOf(block) + ".java"), block.text());
            } else if (block.language().equals("sh")) {
                commands++;
                String printed = runsWell(place, "sh", "-e", "-c", block.text());
                Block next = number + 1 < blocks.size() ? blocks.get(number + 1) : block;
                due(!next.language().equals("text") || printed.equals(next.text()), "README.md's commands print " + printed);
            }
        }
        due(programs > 0, "there is no program");
        due(commands > 0, "there are no commands");
    }

    private static String nameOf(Block program) {
        Matcher name = PROGRAM.matcher(program.text());
        return name.find() ? name.group(1) : "";
    }

    private static String runsWell(Path place, String... command) throws IOException, InterruptedException {
        // What a machine's java tells of its settings goes to the errors, and is not what a program prints.
        Process process = new ProcessBuilder(command).directory(place.toFile())
            .redirectError(ProcessBuilder.Redirect.INHERIT).start();
        String printed = new String(process.getInputStream().readAllBytes());
        due(process.waitFor() == 0, String.join(" ", command) + " fails:\n" + printed);
        return printed;
    }

    private static void copy(Path from, Path to) throws IOException {
        try (Stream<Path> all = Files.walk(from)) {
            for (Path one : all.toList()) {
                Files.copy(one, to.resolve(from.relativize(one)));
            }
        }
    }

    private static void remove(Path place) throws IOException {
        try (Stream<Path> all = Files.walk(place)) {
            for (Path one : all.sorted(Comparator.reverseOrder()).toList()) {
                Files.delete(one);
            }
        }
    }

    // ---- nothing is left out

    private static void eachCall(List<Block> blocks) {
        StringBuilder shown = new StringBuilder();
        blocks.stream().filter(Block::isPiece).forEach(block -> shown.append(block.text()));
        for (Method method : JugglingRows.class.getDeclaredMethods()) {
            if (Modifier.isPublic(method.getModifiers())) {
                due(shown.indexOf("x." + method.getName() + "(") >= 0, "README.md does not show " + method.getName());
            }
        }
    }

    private static void howTestsAreRun(String readme) throws IOException {
        due(readme.contains("`.ci/run`") && Files.isExecutable(Path.of(".ci/run")), "there is no .ci/run to run the tests");
        try (Stream<Path> tests = Files.list(Path.of("src/test/java"))) {
            for (Path test : tests.toList()) {
                String name = test.getFileName().toString().replace(".java", "");
                due(readme.contains("\n- `" + name + "`: "), "README.md does not tell of " + name);
            }
        }
    }
}
