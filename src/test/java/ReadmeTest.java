import java.io.File;
import java.io.IOException;
import java.lang.reflect.Method;
import java.lang.reflect.Modifier;
import java.net.URL;
import java.net.URLClassLoader;
import java.nio.file.Files;
import java.nio.file.Path;
import java.util.regex.Matcher;
import java.util.regex.Pattern;
import javax.tools.JavaCompiler;
import javax.tools.ToolProvider;

/** README.md: its lines answer as they say, and it leaves out no call and no test. */
public final class ReadmeTest {
    private static final Pattern ANSWERED = Pattern.compile("^(?:int (\\w+) = )?(x\\.\\w+\\(.*\\));\\s+// (-?\\d+)\\b.*$");

    private ReadmeTest() {
    }

    public static void main(String[] args) throws Exception {
        String page = Files.readString(Path.of("README.md"));
        int begin = page.indexOf("```java\n") + 8;
        String lines = page.substring(begin, page.indexOf("```", begin));
        linesAnswer(lines);
        callsAreNamed(page.substring(page.indexOf("| Calls |")));
        testsAreNamed(page);
        Check.end();
    }

    private static void linesAnswer(String lines) throws Exception {
        Path folder = Files.createTempDirectory("readme");
        try {
            Path file = folder.resolve("Lines.java");
            Files.writeString(file, asClass(lines));
            JavaCompiler compiler = ToolProvider.getSystemJavaCompiler();
            String classes = System.getProperty("java.class.path");
            int code = compiler.run(null, null, null, "-cp", classes, "-d", folder.toString(), file.toString());
            Check.due("the lines are Java", code, 0);
            if (code == 0) {
                runIn(folder);
            }
        } finally {
            for (File file : folder.toFile().listFiles()) {
                file.delete();
            }
            folder.toFile().delete();
        }
    }

    private static void runIn(Path folder) throws Exception {
        try (URLClassLoader loader = new URLClassLoader(new URL[] {folder.toUri().toURL()})) {
            Object got = loader.loadClass("Lines").getMethod("answers").invoke(null);
            long[][] pairs = (long[][]) got;
            for (int i = 0; i < pairs.length; i++) {
                Check.due("answer " + i + " of README.md", pairs[i][0], pairs[i][1]);
            }
        }
    }

    /** Each line with an answer gives a pair: what came, and what the page says. */
    private static String asClass(String lines) {
        StringBuilder s = new StringBuilder("public final class Lines { public static long[][] answers() {\n"
            + "java.util.List<long[]> all = new java.util.ArrayList<>();\n");
        int answers = 0;
        int calls = 0;
        for (String line : lines.split("\n")) {
            Matcher m = ANSWERED.matcher(line);
            if (m.matches()) {
                answers++;
                s.append(m.group(1) == null ? "" : "int " + m.group(1) + " = (int) ");
                s.append("kept(all, ").append(m.group(2)).append(", ").append(m.group(3)).append("L);\n");
            } else {
                s.append(line).append('\n');
            }
            calls += line.contains("x.") ? 1 : 0;
        }
        Check.due("each call says what it answers", answers, calls);
        Check.due("there are calls", calls > 20, true);
        return s.append("return all.toArray(new long[0][]); }\n"
            + "private static long kept(java.util.List<long[]> all, long got, long due) {\n"
            + "all.add(new long[] {got, due}); return got; } }\n").toString();
    }

    private static void callsAreNamed(String table) {
        for (Method m : DimStars.class.getDeclaredMethods()) {
            if (Modifier.isPublic(m.getModifiers())) {
                boolean isNamed = Pattern.compile("(?m)^\\| [^|(]*\\b" + m.getName() + "\\b[^|(]*\\(").matcher(table).find();
                Check.due("README.md names " + m.getName(), isNamed, true);
            }
        }
    }

    private static void testsAreNamed(String page) throws IOException {
        for (File file : new File("src/test/java").listFiles()) {
            String name = file.getName().replace(".java", "");
            Check.due("README.md names " + name, page.contains("`" + name + "`") || page.contains("`" + name + " ["), true);
        }
    }
}
