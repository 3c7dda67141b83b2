import java.io.IOException;
import java.lang.reflect.Method;
import java.lang.reflect.Modifier;
import java.net.URL;
import java.net.URLClassLoader;
import java.nio.file.Files;
import java.nio.file.Path;
import java.util.ArrayList;
import java.util.Comparator;
import java.util.List;
import java.util.regex.Matcher;
import java.util.regex.Pattern;
import java.util.stream.Stream;
import javax.tools.ToolProvider;

/** README.md's examples, run as they stand there: each answers what is written behind its arrow. */
public final class ReadmeTest {
    private static final Path README = Path.of("README.md");
    private static final Pattern BLOCK = Pattern.compile("```java\n(.*?)```", Pattern.DOTALL);
    private static final Pattern ROW = Pattern.compile("(?:int (\\w+) = )?(.*?); *// -> (\\S+).*");
    private static int wrong = 0;

    public static void main(String[] args) throws Exception {
        String page = Files.readString(README);
        examples(page);
        names(page);
        System.out.println(wrong == 0 ? "the readme holds" : wrong + " rows of the readme don't hold");
        if (wrong != 0) {
            System.exit(1);
        }
    }

    private static void fail(String what) {
        wrong++;
        System.out.println(what);
    }

    private static void names(String page) {
        for (Method m : ForestOfPoles.class.getDeclaredMethods()) {
            if (Modifier.isPublic(m.getModifiers()) && !page.contains("`" + m.getName() + "`")) {
                fail("the readme doesn't name " + m.getName());
            }
        }
    }

    private static void examples(String page) throws Exception {
        StringBuilder members = new StringBuilder();
        StringBuilder body = new StringBuilder();
        int checks = 0;
        for (Matcher block = BLOCK.matcher(page); block.find();) {
            if (block.group(1).startsWith("static ")) {
                members.append(block.group(1));
                continue;
            }
            for (String line : block.group(1).split("\n")) {
                checks += line.contains("->") ? 1 : 0;
                body.append(checked(line));
            }
        }
        if (checks < 30) {
            fail("the readme has only " + checks + " rows with answers");
        }
        String source = "import java.util.List;\npublic class Example {\n" + members
            + "public static void go(List<String> wrong) {\n" + body + "}\n"
            + "static void due(List<String> wrong, String call, Object got, Object want) {\n"
            + "if (!got.toString().equals(want.toString())) { wrong.add(call + \" answered \" + got + \", not \" + want); } }\n}\n";
        for (String each : run(source)) {
            fail(each);
        }
    }

    /** A row as Java: one with an answer becomes a check of it. */
    private static String checked(String line) {
        Matcher row = ROW.matcher(line);
        if (!row.matches()) {
            return line + "\n";
        }
        String want = row.group(3).equals("NONE") ? "ForestOfPoles.NONE" : row.group(3);
        String call = "\"" + row.group(2).replace("\\", "\\\\").replace("\"", "\\\"") + "\"";
        String got = row.group(1) == null ? row.group(2) : row.group(1);
        String told = row.group(1) == null ? "" : "int " + row.group(1) + " = " + row.group(2) + ";\n";
        return told + "due(wrong, " + call + ", " + got + ", " + want + ");\n";
    }

    private static List<String> run(String source) throws Exception {
        Path dir = Files.createTempDirectory("readme");
        try {
            Path file = Files.writeString(dir.resolve("Example.java"), source);
            String path = System.getProperty("java.class.path");
            int code = ToolProvider.getSystemJavaCompiler().run(null, null, null, "-cp", path, "-d", dir.toString(), file.toString());
            if (code != 0) {
                return List.of("the readme's examples don't compile");
            }
            List<String> found = new ArrayList<>();
            try (URLClassLoader loader = new URLClassLoader(new URL[] {dir.toUri().toURL()}, ReadmeTest.class.getClassLoader())) {
                loader.loadClass("Example").getMethod("go", List.class).invoke(null, found);
            }
            return found;
        } finally {
            remove(dir);
        }
    }

    private static void remove(Path dir) throws IOException {
        try (Stream<Path> all = Files.walk(dir)) {
            for (Path each : all.sorted(Comparator.reverseOrder()).toList()) {
                Files.delete(each);
            }
        }
    }
}
