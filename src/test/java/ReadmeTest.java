import java.io.IOException;
import java.net.URL;
import java.net.URLClassLoader;
import java.nio.file.DirectoryStream;
import java.nio.file.Files;
import java.nio.file.Path;
import java.util.List;
import java.util.TreeSet;
import java.util.regex.Matcher;
import java.util.regex.Pattern;
import javax.tools.ToolProvider;

/**
 * README.md: its examples are compiled and run, and each call answers what stands behind its "->"; each
 * method of the face is told of and stands in an example; each test is named.
 */
public final class ReadmeTest extends LoomTest {
    private static final Path README = Path.of("README.md");
    private static final Pattern CALL = Pattern.compile("loom\\.(\\w+)\\((.*)\\);\\s*// -> (\\S+).*");
    private static final Pattern MEMBER = Pattern.compile("    public ([^;]*);");

    private static String exampleClass(List<String> lines, TreeSet<String> called) {
        StringBuilder s = new StringBuilder("public final class ReadmeExamples {\n");
        s.append("static int wrong; static void due(String call, Object got, Object want) {\n")
            .append("if (!got.equals(want)) { wrong++; System.out.println(\"README.md, \" + call + \" answered \" + got); } }\n")
            .append("static void due(String call, long got, long want) { due(call, (Object) got, (Object) want); }\n")
            .append("public static int run() {\n");
        boolean inside = false;
        for (int k = 0; k < lines.size(); k++) {
            String line = lines.get(k).strip();
            if (line.startsWith("```")) {
                if (line.equals("```java")) s.append("{\n");
                else if (inside) s.append("}\n");
                inside = line.equals("```java");
            } else if (inside) {
                s.append(exampleLine(k + 1, line, called)).append('\n');
            }
        }
        return s.append("return wrong; } }\n").toString();
    }

    private static String exampleLine(int number, String line, TreeSet<String> called) {
        Matcher m = CALL.matcher(line);
        if (!m.matches()) {
            due("README.md, line " + number + " is a call with its answer", line.startsWith("loom."), false);
            return line;
        }
        called.add(m.group(1));
        return "due(\"line " + number + ": " + m.group(1) + "\", loom." + m.group(1) + "(" + m.group(2) + "), " + m.group(3) + ");";
    }

    private static int answersThatAreWrong(String source) throws Exception {
        Path dir = Files.createTempDirectory("readme");
        Path file = dir.resolve("ReadmeExamples.java");
        Files.writeString(file, source);
        int compiled = ToolProvider.getSystemJavaCompiler().run(null, System.out, System.out,
            "-cp", System.getProperty("java.class.path"), "-d", dir.toString(), file.toString());
        due("README.md: its examples compile", compiled, 0);
        if (compiled != 0) return 0;
        try (URLClassLoader loader = new URLClassLoader(new URL[] {dir.toUri().toURL()})) {
            return (Integer) loader.loadClass("ReadmeExamples").getMethod("run").invoke(null);
        } finally {
            for (String name : new String[] {"ReadmeExamples.class", "ReadmeExamples.java"}) Files.deleteIfExists(dir.resolve(name));
            Files.delete(dir);
        }
    }

    /** The members of the face, as the document writes them. */
    private static void tellsOfAll(String text, TreeSet<String> called) throws IOException {
        int members = 0;
        for (String line : Files.readAllLines(Path.of("../shared/DOC.md"))) {
            Matcher m = MEMBER.matcher(line);
            if (!m.matches()) continue;
            members++;
            String member = m.group(1);
            due("README.md tells of " + member, text.contains("`" + member + "`"), true);
            String name = member.substring(member.indexOf(' ') + 1, member.indexOf('('));
            due("README.md has an example of " + member, name.equals("FaultLoom") || called.contains(name), true);
        }
        due("the face of the document: members", members, 18);
    }

    private static void namesAllTests(String text) throws IOException {
        try (DirectoryStream<Path> tests = Files.newDirectoryStream(Path.of("src/test/java"), "*.java")) {
            for (Path test : tests) {
                String name = test.getFileName().toString().replace(".java", "");
                due("README.md names " + name, text.contains("`" + name + "`"), true);
            }
        }
        due("README.md says how to run the tests", text.contains(".ci/run"), true);
    }

    public static void main(String[] args) throws Exception {
        List<String> lines = Files.readAllLines(README);
        String text = Files.readString(README);
        TreeSet<String> called = new TreeSet<>();
        String source = exampleClass(lines, called);
        due("README.md: answers of its examples that are wrong", answersThatAreWrong(source), 0);
        tellsOfAll(text, called);
        namesAllTests(text);
        finish();
    }
}
