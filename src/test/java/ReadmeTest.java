import java.io.IOException;
import java.lang.reflect.Method;
import java.lang.reflect.Modifier;
import java.net.URL;
import java.net.URLClassLoader;
import java.nio.file.DirectoryStream;
import java.nio.file.Files;
import java.nio.file.Path;
import java.util.regex.Matcher;
import java.util.regex.Pattern;

/** README.md: its examples are compiled and answer what it says, and it names every call and every test. */
public final class ReadmeTest {
    private static final Pattern BLOCK = Pattern.compile("(?s)```java\n(.*?)```");
    private static final Pattern ROW = Pattern.compile("(?m)^(.*\\));\\s+// (-?\\d+): .*$");
    private static int wrong;
    private static int rows;

    public static void main(String[] args) throws Exception {
        String readme = Files.readString(Path.of("README.md"));
        namesEveryCall(readme);
        namesEveryTest(readme);
        runExamples(readme);
        Check.end();
        if (wrong > 0) {
            System.exit(1);
        }
    }

    private static void must(boolean holds, String what) {
        if (!holds) {
            wrong++;
            System.out.println("README.md: it does not hold that " + what);
        }
    }

    private static void namesEveryCall(String readme) {
        for (Method m : FoldDesk.class.getDeclaredMethods()) {
            if (Modifier.isPublic(m.getModifiers())) {
                must(readme.contains("`" + m.getName() + "("), m.getName() + " is told");
            }
        }
        for (String group : new String[] {"Acts", "What lies", "Shapes", "Diagrams"}) {
            must(readme.contains("\n### " + group + "\n"), "the group '" + group + "' has a part of its own");
        }
    }

    private static void namesEveryTest(String readme) throws IOException {
        try (DirectoryStream<Path> tests = Files.newDirectoryStream(Path.of("src/test/java"), "*Test.java")) {
            for (Path test : tests) {
                String name = test.getFileName().toString().replace(".java", "");
                must(readme.contains("| `" + name + "` |"), name + " is in the table of tests");
            }
        }
    }

    /** What an example's row answers, told by the compiled examples. */
    public static void row(String call, int got, int want) {
        rows++;
        Check.due("README.md: " + call, got, want);
    }

    private static void runExamples(String readme) throws Exception {
        StringBuilder methods = new StringBuilder();
        StringBuilder main = new StringBuilder();
        int told = 0;
        Matcher block = BLOCK.matcher(readme);
        while (block.find()) {
            String code = block.group(1);
            if (code.startsWith("static ")) {
                methods.append(code);
                continue;
            }
            told += (int) ROW.matcher(code).results().count();
            main.append("{\n").append(ROW.matcher(code).replaceAll(found -> Matcher.quoteReplacement("ReadmeTest.row(\""
                    + found.group(1).replace("\"", "'") + "\", " + found.group(1) + ", " + found.group(2) + ");")));
            main.append("}\n");
        }
        compileAndRun("public final class Examples {\n" + methods + "public static void main(String[] args) {\n" + main + "}\n}\n");
        must(told > 40 && rows == told, "all rows of its examples were run");
    }

    private static void compileAndRun(String source) throws Exception {
        Path out = Files.createTempDirectory("readme");
        Path file = out.resolve("Examples.java");
        Files.writeString(file, source);
        int code = new ProcessBuilder("javac", "-cp", System.getProperty("java.class.path"), "-d", out.toString(), file.toString())
                .inheritIO().start().waitFor();
        must(code == 0, "its examples can be compiled");
        if (code == 0) {
            try (URLClassLoader loader = new URLClassLoader(new URL[] {out.toUri().toURL()}, ReadmeTest.class.getClassLoader())) {
                loader.loadClass("Examples").getMethod("main", String[].class).invoke(null, (Object) new String[0]);
            }
        }
        try (DirectoryStream<Path> made = Files.newDirectoryStream(out)) {
            for (Path each : made) {
                Files.delete(each);
            }
        }
        Files.delete(out);
    }
}
