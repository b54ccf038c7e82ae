import java.io.IOException;
import java.lang.reflect.Method;
import java.lang.reflect.Modifier;
import java.nio.file.Files;
import java.nio.file.Path;
import java.util.ArrayList;
import java.util.List;
import java.util.Set;
import java.util.TreeSet;
import java.util.regex.Matcher;
import java.util.regex.Pattern;

/**
 * Writes README.md's Java out as the class ReadmeExamples, one method a block, in which each call is held against the
 * answer that the page gives behind it. .ci/run compiles and runs that class.
 */
final class ReadmeTests {
    private static final Pattern BLOCK = Pattern.compile("(?s)```java\n(.*?)```");
    private static final Pattern EXAMPLE = Pattern.compile("(x\\.(\\w+)\\(.*\\));\\s+// (-?\\d+)(:? .*|)");

    private ReadmeTests() {
    }

    /** args: README.md, the directory for ReadmeExamples.java. */
    public static void main(String[] args) throws IOException {
        String page = Files.readString(Path.of(args[0]));
        Set<String> shown = new TreeSet<>();
        List<String> blocks = new ArrayList<>();
        Matcher m = BLOCK.matcher(page);
        while (m.find()) {
            blocks.add(method(blocks.size(), m.group(1), shown));
        }
        Check.promise("README.md");
        Check.holds("has examples", !blocks.isEmpty());
        for (Method call : SeatScene.class.getDeclaredMethods()) {
            if (Modifier.isPublic(call.getModifiers())) {
                Check.holds("shows " + call.getName(), shown.contains(call.getName()));
            }
        }
        Files.createDirectories(Path.of(args[1]));
        Files.writeString(Path.of(args[1], "ReadmeExamples.java"), source(blocks));
        Check.close("ReadmeTests");
    }

    private static String method(int number, String block, Set<String> shown) {
        StringBuilder body = new StringBuilder("    private static void block" + number + "() {\n");
        body.append("        Check.promise(\"README.md, block ").append(number + 1).append("\");\n");
        for (String line : block.split("\n")) {
            Matcher example = EXAMPLE.matcher(line);
            if (example.matches()) {
                shown.add(example.group(2));
                body.append("        Check.due(\"").append(example.group(1)).append("\", ").append(example.group(1))
                        .append(", ").append(example.group(3)).append("L);\n");
            } else {
                Check.holds("has its answer: " + line, !line.startsWith("x."));
                body.append("        ").append(line).append('\n');
            }
        }
        return body.append("    }\n").toString();
    }

    private static String source(List<String> blocks) {
        StringBuilder all = new StringBuilder("final class ReadmeExamples {\n");
        all.append("    public static void main(String[] args) {\n");
        for (int i = 0; i < blocks.size(); i++) {
            all.append("        block").append(i).append("();\n");
        }
        all.append("        Check.close(\"ReadmeExamples\");\n    }\n");
        for (String block : blocks) {
            all.append('\n').append(block);
        }
        return all.append("}\n").toString();
    }
}
