import java.io.IOException;
import java.io.PrintWriter;
import java.io.StringWriter;
import java.lang.management.ManagementFactory;
import java.lang.reflect.Constructor;
import java.lang.reflect.Field;
import java.lang.reflect.Method;
import java.lang.reflect.Modifier;
import java.nio.file.Files;
import java.nio.file.Path;
import java.util.ArrayList;
import java.util.Arrays;
import java.util.HashMap;
import java.util.HashSet;
import java.util.List;
import java.util.Map;
import java.util.Set;
import java.util.TreeSet;
import java.util.regex.Matcher;
import java.util.regex.Pattern;
import java.util.spi.ToolProvider;

/** What can be seen from outside of the rules for the program's Java: its face, its words, its room. */
public final class LanguageTest {
    private LanguageTest() {
    }

    public static void main(String[] args) throws IOException {
        Path folder = Path.of("src/main/java/DimStars.java");
        List<String> lines = Files.readAllLines(folder);
        face(Files.readString(Path.of("../shared/DOC.md")));
        classes();
        words(lines);
        lengths(lines);
        depth();
        room();
        Check.end();
    }

    private static String told(Method m) {
        StringBuilder s = new StringBuilder(m.getReturnType().getName()).append(' ').append(m.getName()).append('(');
        for (Class<?> c : m.getParameterTypes()) {
            s.append(c.getName()).append(' ');
        }
        return s.append(')').toString();
    }

    private static void face(String document) {
        TreeSet<String> due = new TreeSet<>();
        String shown = document.substring(document.indexOf("```java"), document.indexOf("## Terms"));
        Matcher lines = Pattern.compile("public (\\w+) (\\w+)\\(([^)]*)\\);").matcher(shown);
        while (lines.find()) {
            StringBuilder s = new StringBuilder(lines.group(1)).append(' ').append(lines.group(2)).append('(');
            for (String p : lines.group(3).isEmpty() ? new String[0] : lines.group(3).split(", ")) {
                s.append(p.split(" ")[0]).append(' ');
            }
            due.add(s.append(')').toString());
        }
        TreeSet<String> have = new TreeSet<>();
        TreeSet<String> names = new TreeSet<>();
        for (Method m : DimStars.class.getDeclaredMethods()) {
            if (Modifier.isPublic(m.getModifiers())) {
                have.add(told(m));
                names.add(m.getName());
            } else {
                Check.due("private: " + m, Modifier.isPrivate(m.getModifiers()), true);
            }
        }
        Check.due("the document tells 40 methods", due.size(), 40);
        Check.due("the face is " + have + ", due is " + due, have.equals(due), true);
        for (Class<?> c : all()) {
            for (Method m : c.getDeclaredMethods()) {
                Check.due("a private method bears a public name: " + m,
                    !Modifier.isPublic(m.getModifiers()) && names.contains(m.getName()), false);
            }
        }
        for (Constructor<?> c : DimStars.class.getDeclaredConstructors()) {
            Check.due("constructor", Modifier.isPublic(c.getModifiers()) && c.getParameterCount() == 0, true);
        }
        for (Field f : DimStars.class.getDeclaredFields()) {
            Check.due("field " + f, f.getName().equals("NONE") ? Modifier.isPublic(f.getModifiers())
                : Modifier.isPrivate(f.getModifiers()), true);
        }
    }

    private static List<Class<?>> all() {
        List<Class<?>> all = new ArrayList<>(Arrays.asList(DimStars.class.getDeclaredClasses()));
        all.add(DimStars.class);
        return all;
    }

    private static void classes() {
        Check.due("final", Modifier.isFinal(DimStars.class.getModifiers()), true);
        Check.due("twelve classes at most", all().size() <= 12, true);
        for (Class<?> c : all()) {
            Check.due("static inside: " + c, c == DimStars.class || Modifier.isStatic(c.getModifiers()), true);
            int fields = 0;
            for (Field f : c.getDeclaredFields()) {
                boolean isStatic = Modifier.isStatic(f.getModifiers());
                Check.due("static fields are final: " + f, isStatic && !Modifier.isFinal(f.getModifiers()), false);
                fields += isStatic ? 0 : 1;
            }
            Check.due("twenty fields at most: " + c, fields <= 20, true);
            for (Method m : c.getDeclaredMethods()) {
                Check.due("seven parameters at most: " + m, m.getParameterCount() <= 7, true);
            }
        }
    }

    private static void words(List<String> lines) {
        Pattern ruledOut = Pattern.compile("\\b(throw|throws|try|catch|synchronized|assert|default ->|double|float|var|package|this::"
            + "|Exact|System\\.out|Random|Thread|toString|hashCode|instanceof)\\b|->|::|Exact\\(");
        for (String line : lines) {
            String code = line.replaceAll("^\\s*(/\\*\\*|\\*|//).*", "");
            Check.due("ruled out: " + line, ruledOut.matcher(code).find(), false);
            Check.due("a sign beyond 127: " + line, line.chars().anyMatch(c -> c > 126), false);
            Check.due("another import: " + line, code.startsWith("import") && !code.equals("import java.util.Arrays;"), false);
        }
    }

    private static void lengths(List<String> lines) {
        Pattern head = Pattern.compile("^( {4}| {8})(public|private) .*\\) \\{$");
        int start = -1;
        String indent = "";
        for (int i = 0; i < lines.size(); i++) {
            Matcher m = head.matcher(lines.get(i));
            if (m.matches()) {
                start = i;
                indent = m.group(1);
            } else if (start >= 0 && lines.get(i).equals(indent + "}")) {
                Check.due("sixty lines at most: " + lines.get(start), i - start + 1 <= 60, true);
                start = -1;
            }
        }
    }

    /** Calls go at most eight deep, those that come back to themselves counted once. */
    private static void depth() {
        ToolProvider javap = ToolProvider.findFirst("javap").orElse(null);
        if (javap == null) {
            System.out.println("no javap here: the depth of calls is not looked at");
            return;
        }
        Map<String, Set<String>> calls = new HashMap<>();
        for (Class<?> c : all()) {
            StringWriter told = new StringWriter();
            javap.run(new PrintWriter(told), new PrintWriter(System.err), "-c", "-p", "-cp",
                System.getProperty("java.class.path"), c.getName());
            addCalls(c.getName(), told.toString(), calls);
        }
        Check.due("all methods are there", calls.size() > 100, true);
        for (Method m : DimStars.class.getDeclaredMethods()) {
            if (Modifier.isPublic(m.getModifiers())) {
                Check.due("eight deep at most: " + m, deepest("DimStars." + m.getName(), calls, new HashSet<>()) <= 8, true);
            }
        }
    }

    private static void addCalls(String name, String code, Map<String, Set<String>> calls) {
        Pattern head = Pattern.compile("^  \\S.*?(\\w+)\\(.*\\);$");
        Pattern call = Pattern.compile("invoke\\w+ .*// Method (\\S+):");
        String from = "";
        for (String line : code.split("\\R")) {
            Matcher m = head.matcher(line);
            Matcher c = call.matcher(line);
            if (m.matches()) {
                from = name + "." + m.group(1);
                calls.putIfAbsent(from, new TreeSet<>());
            } else if (c.find() && !c.group(1).startsWith("java")) {
                String to = c.group(1).contains(".") ? c.group(1) : name + "." + c.group(1);
                calls.get(from).add(to);
            }
        }
    }

    private static int deepest(String from, Map<String, Set<String>> calls, Set<String> open) {
        int most = 0;
        open.add(from);
        for (String to : calls.getOrDefault(from, Set.of())) {
            if (!open.contains(to)) {
                most = Math.max(most, deepest(to, calls, open));
            }
        }
        open.remove(from);
        return most + 1;
    }

    /** The dearest calls of a run make next to nothing: the room holds some 7.3 million elements. */
    private static void room() {
        com.sun.management.ThreadMXBean beans = (com.sun.management.ThreadMXBean) ManagementFactory.getThreadMXBean();
        long id = Thread.currentThread().getId();
        dearRun();
        long before = beans.getThreadAllocatedBytes(id);
        dearRun();
        long bytes = beans.getThreadAllocatedBytes(id) - before;
        Check.due("a run of dear calls takes " + bytes + " bytes", bytes < 2000000, true);
    }

    private static void dearRun() {
        DimStars x = new DimStars();
        for (int i = 0; i < 12; i++) {
            x.star(1 + i, i % 8, 1 + i);
        }
        for (int i = 0; i < 40; i++) {
            x.world(i % 12, 5 + i, i, 2, 50 + i, i % 2 == 0);
        }
        Check.law(x, "bright hour;noise 50");
        for (int i = 0; i < 6; i++) {
            Check.search(x, "beat 2 30; least 3");
            Check.sorter(x, "world deep + late - odd * shape + same; pair 3");
        }
        for (int i = 0; i < 12; i++) {
            x.make(0, i, i, 0, 599);
        }
        for (int i = 0; i < 40; i++) {
            x.row(i % 12, i, i);
            x.truly(i % 6, i % 6);
            x.image(i % 4);
            x.back(i % 4);
            x.many(i % 6, i % 6, 0, 999, i % 2);
            x.sign(i % 6, i % 12, 5);
            x.second(i % 6, i % 12, 0);
            x.feed(i, i, i, i, i);
            x.text(i % 3);
        }
    }
}
