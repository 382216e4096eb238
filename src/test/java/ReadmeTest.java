import java.io.IOException;
import java.net.URL;
import java.net.URLClassLoader;
import java.nio.file.Files;
import java.nio.file.Path;
import java.util.ArrayList;
import java.util.Comparator;
import java.util.List;
import java.util.Map;
import java.util.Set;
import java.util.TreeSet;
import java.util.regex.Matcher;
import java.util.regex.Pattern;
import java.util.stream.Stream;
import javax.tools.ToolProvider;

/**
 * What README.md says is so: its Java is compiled as it stands there and each call answers what is shown beside it, its
 * table tells the right numbers, its tests are there, and its command for one test alone works. Runs in the project's
 * folder.
 */
public final class ReadmeTest {
    private static final Due due = new Due();
    private static final Pattern SHOWN = Pattern.compile("(x\\..*\\)); +// (-?\\d+|LOST)(?: ([A-Z]+))?: .+");
    private static final Pattern IN_TABLE = Pattern.compile("\\| (-\\d+) \\| ([A-Z]+) \\| (?:fault (\\d))?.*");
    private static final Map<String, Integer> NAMED = Map.of("UNKNOWN", RootSigns.UNKNOWN, "OUTSIDE", RootSigns.OUTSIDE,
        "STATE", RootSigns.STATE, "FULL", RootSigns.FULL, "NONE", RootSigns.NONE, "NULL", -11, "CAST", -12, "INDEX", -13,
        "SIZE", -14);

    /** A call as it is shown, and the answer beside it. */
    private record Shown(String call, long answer) { }

    public static void main(String[] args) throws Exception {
        List<String> page = Files.readAllLines(Path.of("README.md"));
        Path folder = Files.createTempDirectory("readme");
        try {
            calls(inBlocks(page, "```java"), folder);
            table(page);
            testsAreThere(page);
            oneTestAlone(inBlocks(page, "```"), folder);
        } finally {
            remove(folder);
        }
        due.end();
    }

    /** The lines between a line that is this one and the next that ends a block. */
    private static List<String> inBlocks(List<String> page, String begin) {
        List<String> found = new ArrayList<>();
        String block = null;
        for (String line : page) {
            if (line.startsWith("```")) {
                block = block == null ? line : null;
            } else if (begin.equals(block)) {
                found.add(line);
            }
        }
        return found;
    }

    private static void calls(List<String> lines, Path folder) throws Exception {
        List<Shown> shown = new ArrayList<>();
        Set<String> names = new TreeSet<>();
        StringBuilder code = new StringBuilder("public final class ReadmeCalls {\npublic static java.util.List<Long> made() {\n"
            + "java.util.List<Long> made = new java.util.ArrayList<>();\n");
        for (String line : lines) {
            Matcher m = SHOWN.matcher(line);
            boolean isShown = m.matches();
            due.isTrue("an answer beside " + line, isShown || !line.startsWith("x."));
            if (!isShown) {
                code.append(line).append('\n');
                continue;
            }
            code.append("made.add((long) ").append(m.group(1)).append(");\n");
            long answer = m.group(2).equals("LOST") ? RootSigns.LOST : Long.parseLong(m.group(2));
            shown.add(new Shown(m.group(1), answer));
            if (m.group(3) != null) {
                due.is("number of the name in " + line, answer, NAMED.getOrDefault(m.group(3), 0));
                names.add(m.group(3));
            }
        }
        code.append("return made;\n}\n}\n");
        due.isTrue("each refusal and FAULT is shown: " + names, names.equals(NAMED.keySet()));
        List<?> made = madeBy(code.toString(), folder);
        due.is("how many calls", made.size(), shown.size());
        for (int n = 0; n < Math.min(made.size(), shown.size()); n++) {
            due.is("README.md, " + shown.get(n).call, (Long) made.get(n), shown.get(n).answer);
        }
    }

    private static List<?> madeBy(String code, Path folder) throws Exception {
        Path file = Files.writeString(folder.resolve("ReadmeCalls.java"), code);
        int failed = ToolProvider.getSystemJavaCompiler().run(null, System.out, System.out,
            "-cp", System.getProperty("java.class.path"), "-d", folder.toString(), file.toString());
        due.is("compiling what README.md shows", failed, 0);
        if (failed != 0) {
            return List.of();
        }
        try (URLClassLoader loader = new URLClassLoader(new URL[] {folder.toUri().toURL()})) {
            return (List<?>) loader.loadClass("ReadmeCalls").getMethod("made").invoke(null);
        }
    }

    private static void table(List<String> page) {
        Set<String> names = new TreeSet<>();
        for (String line : page) {
            Matcher m = IN_TABLE.matcher(line);
            if (m.matches()) {
                int answer = Integer.parseInt(m.group(1));
                due.is(line, answer, NAMED.getOrDefault(m.group(2), 0));
                due.is("fault in " + line, m.group(3) == null ? 0 : Integer.parseInt(m.group(3)), Math.max(-10 - answer, 0));
                names.add(m.group(2));
            }
        }
        due.isTrue("the table has " + names, names.equals(NAMED.keySet()));
    }

    private static void testsAreThere(List<String> page) {
        Matcher m = Pattern.compile("(?<!\\*)\\b[A-Z]\\w*Test\\b").matcher(String.join("\n", page));
        while (m.find()) {
            due.isTrue(m.group() + " is there", Files.exists(Path.of("src/test/java", m.group() + ".java")));
        }
    }

    /** In a folder that has the project's src, so that nothing is left behind in the project. */
    private static void oneTestAlone(List<String> commands, Path folder) throws Exception {
        Files.createSymbolicLink(folder.resolve("src"), Path.of("src").toAbsolutePath());
        int ran = 0;
        for (String command : commands) {
            if (command.startsWith("javac ") && !command.contains("../shared")) {
                ran++;
                Process p = new ProcessBuilder("bash", "-c", command).directory(folder.toFile()).inheritIO().start();
                due.is(command, p.waitFor(), 0);
            }
        }
        due.is("commands for one test alone", ran, 1);
    }

    private static void remove(Path folder) throws IOException {
        try (Stream<Path> all = Files.walk(folder)) {
            for (Path p : all.sorted(Comparator.reverseOrder()).toList()) {
                Files.delete(p);
            }
        }
    }
}
