import java.lang.management.ManagementFactory;
import java.lang.reflect.Constructor;
import java.lang.reflect.Field;
import java.lang.reflect.Method;
import java.lang.reflect.Modifier;
import java.nio.file.Files;
import java.nio.file.Path;
import java.util.List;
import java.util.Set;
import java.util.TreeSet;
import java.util.regex.Matcher;
import java.util.regex.Pattern;

/** The rules of LANGUAGE.md that a machine can look after, and the face that DOC.md shows. */
final class LanguageTests {
    private LanguageTests() {
    }

    /** args: the source of SeatScene, DOC.md. */
    public static void main(String[] args) throws Exception {
        String source = Files.readString(Path.of(args[0]));
        String doc = Files.readString(Path.of(args[1]));
        face(doc);
        members();
        words(source);
        sizes(source);
        room();
        Check.close("LanguageTests");
    }

    private static void face(String doc) {
        Check.promise("the public face");
        String block = doc.substring(doc.indexOf("```java"), doc.indexOf("## Terms"));
        Set<String> told = new TreeSet<>();
        Matcher m = Pattern.compile("public (int|long) (\\w+)\\(([^)]*)\\)").matcher(block);
        while (m.find()) {
            int many = m.group(3).isEmpty() ? 0 : m.group(3).split(",").length;
            told.add(m.group(1) + " " + m.group(2) + " " + many);
        }
        Set<String> have = new TreeSet<>();
        for (Method method : SeatScene.class.getDeclaredMethods()) {
            if (Modifier.isPublic(method.getModifiers())) {
                have.add(method.getReturnType() + " " + method.getName() + " " + method.getParameterCount());
            }
        }
        Check.due("methods told", told.size(), 42);
        Check.holds("the face is as told: " + have, told.equals(have));
        Check.holds("public and final", Modifier.isFinal(SeatScene.class.getModifiers())
                && Modifier.isPublic(SeatScene.class.getModifiers()));
        Constructor<?>[] made = SeatScene.class.getDeclaredConstructors();
        Check.holds("one constructor", made.length == 1 && Modifier.isPublic(made[0].getModifiers())
                && made[0].getParameterCount() == 0);
    }

    private static void members() {
        Check.promise("rules 1, 2, 5, 11");
        Set<String> open = Set.of("NONE", "BAD", "NO", "FULL");
        Set<String> face = new TreeSet<>();
        for (Method m : SeatScene.class.getDeclaredMethods()) {
            if (Modifier.isPublic(m.getModifiers())) {
                face.add(m.getName());
            }
        }
        Class<?>[] inside = SeatScene.class.getDeclaredClasses();
        Check.holds("twelve classes at most", inside.length <= 11);
        for (Field f : SeatScene.class.getDeclaredFields()) {
            Check.holds("field " + f.getName(), Modifier.isPrivate(f.getModifiers()) != open.contains(f.getName()));
        }
        check(SeatScene.class, face);
        for (Class<?> c : inside) {
            Check.holds(c.getName() + " is static and private", Modifier.isStatic(c.getModifiers())
                    && Modifier.isPrivate(c.getModifiers()));
            check(c, face);
        }
    }

    private static void check(Class<?> c, Set<String> face) {
        int fields = 0;
        for (Field f : c.getDeclaredFields()) {
            boolean fixed = Modifier.isStatic(f.getModifiers());
            Check.holds("static " + f.getName() + " is final", !fixed || Modifier.isFinal(f.getModifiers()));
            fields += fixed ? 0 : 1;
        }
        Check.holds(c.getName() + " has twenty fields at most", fields <= 20);
        for (Method m : c.getDeclaredMethods()) {
            Check.holds(m + " takes seven at most", m.getParameterCount() <= 7);
            Check.holds(m + " bears no public name", Modifier.isPublic(m.getModifiers()) || !face.contains(m.getName()));
        }
    }

    private static void words(String source) {
        Check.promise("rules 2, 4, 6, 10");
        String bare = source.replaceAll("(?s)/\\*.*?\\*/", " ").replaceAll("//[^\\n]*", " ");
        for (String no : List.of("throw", "try", "catch", "synchronized", "assert", "instanceof", "Object",
                "record", "interface", "enum", "System.out", "System.nano", "System.current", "Random", "Thread", "var",
                "hashCode", "toString", "float", "double", "Exact")) {
            Check.holds("no " + no, !Pattern.compile("\\b" + Pattern.quote(no) + "\\b").matcher(bare).find());
        }
        Check.holds("no lambda", !bare.contains("->") && !bare.contains("::"));
        Matcher imports = Pattern.compile("import ([^;]+);").matcher(bare);
        while (imports.find()) {
            Check.holds("import " + imports.group(1), imports.group(1).equals("java.util.Arrays"));
        }
        Matcher calls = Pattern.compile("\\b(Arrays|System|Math|Integer|Long)\\.(\\w+)").matcher(bare);
        while (calls.find()) {
            Check.holds(calls.group(), Set.of("Arrays.fill", "System.arraycopy", "Math.max", "Math.min")
                    .contains(calls.group()));
        }
        Check.holds("signs 0 .. 127", source.chars().allMatch(c -> c < 128));
        Check.holds("no package line", !bare.contains("package "));
    }

    private static void sizes(String source) {
        Check.promise("rule 11");
        String[] lines = source.split("\n");
        int from = -1;
        for (int i = 0; i < lines.length; i++) {
            if (lines[i].matches("(    |        )(public|private|static|int|long|boolean|void).*\\) \\{")) {
                from = i;
            } else if (from >= 0 && lines[i].matches("(    |        )\\}")) {
                Check.holds(lines[from].strip() + " has " + (i - from) + " lines", i - from <= 60);
                from = -1;
            }
        }
    }

    /** What 512 of the dearest calls make: nothing, all rows being made with the object. */
    private static void room() {
        Check.promise("the room");
        com.sun.management.ThreadMXBean threads =
                (com.sun.management.ThreadMXBean) ManagementFactory.getThreadMXBean();
        SeatScene x = new SeatScene();
        ask(x);
        long before = threads.getCurrentThreadAllocatedBytes();
        for (int i = 0; i < 30; i++) {
            ask(x);
        }
        long made = threads.getCurrentThreadAllocatedBytes() - before;
        Check.holds("calls made " + made + " bytes", made < 4096);
    }

    private static void ask(SeatScene x) {
        x.chapter();
        for (int i = 0; i < 7; i++) {
            x.seat(i % 6, i % 4, 30);
            x.canon(i % 6, 5);
            x.sits(i, i);
            x.wish(i % 5, i % 4, 9);
        }
        x.year(9);
        x.swap(1, 2);
        x.image(1);
        x.from(1);
        x.undo();
        x.then(1, 1, 60);
        x.first(3, 1);
        x.place(1, 1, 99, 0);
        x.seating(12, 1);
        x.row(1);
        x.look(1);
        x.tries(1);
        x.two(1, 2, 0);
        x.left(2, 3, 4);
        x.years(5, 60);
        x.digest();
        x.clear();
        for (byte b : TEXT) {
            x.type(b);
        }
        x.read();
    }

    private static final byte[] TEXT = "chapter;seat 0 1 30;canon 0 5;sits 0 0;years 20;".getBytes();
}
