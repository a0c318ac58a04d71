import java.io.IOException;
import java.nio.file.Files;
import java.nio.file.Path;
import java.util.TreeSet;
import java.util.regex.Matcher;
import java.util.regex.Pattern;

/** BOUNDS.md names tests that are there, for every promise, and leaves none of the tests of bounds out. */
public final class BoundsListTest {
    private static final String[] FILES = {"ArgumentsTest", "FullTest", "TextBoundsTest", "MadeBoundsTest", "LookBoundsTest",
        "CatchBoundsTest", "SignBoundsTest", "JudgeBoundsTest"};

    private BoundsListTest() {
    }

    public static void main(String[] args) throws IOException {
        String list = Files.readString(Path.of("BOUNDS.md"));
        TreeSet<String> named = new TreeSet<>();
        Matcher names = Pattern.compile("\\b(\\w+Test)\\.(\\w+)").matcher(list);
        while (names.find()) {
            named.add(names.group());
        }
        TreeSet<String> there = new TreeSet<>();
        for (String file : FILES) {
            String code = Files.readString(Path.of("src/test/java/" + file + ".java"));
            Matcher heads = Pattern.compile("private static void (\\w+)\\(\\) \\{").matcher(code);
            while (heads.find()) {
                String called = heads.group(1) + "();";
                Check.due(file + "." + heads.group(1) + " runs", code.contains(" " + called), true);
                there.add(file + "." + heads.group(1));
            }
        }
        for (String name : named) {
            Check.due("is there: " + name, there.contains(name), true);
        }
        there.remove("ArgumentsTest.house");
        there.remove("FullTest.fullHouse");
        there.remove("FullTest.numbersAtTheEnd");
        for (String name : there) {
            Check.due("is named: " + name, named.contains(name), true);
        }
        for (int promise = 1; promise <= 41; promise++) {
            Check.due("promise " + promise, Pattern.compile("\\| " + promise + " [a-z ]+ \\| \\w+Test\\.").matcher(list).find(), true);
        }
        Check.end();
    }
}
