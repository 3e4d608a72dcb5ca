import java.io.IOException;
import java.lang.reflect.Method;
import java.lang.reflect.Modifier;
import java.nio.file.Files;
import java.nio.file.Path;
import java.util.ArrayList;
import java.util.List;

/** README.md's example answers what its comments say, and README.md leaves no call of the face out. */
public final class ReadmeTests {
    private static final Path README = Path.of("README.md");
    private static final Path THIS = Path.of("src/test/java/ReadmeTests.java");
    private static int wrong = 0;

    private static void due(String what, long got, long want) {
        if (got != want) {
            wrong++;
            System.out.println(what + " is " + got + ", due is " + want);
        }
    }

    private static void check(String what, boolean holds) {
        if (!holds) {
            wrong++;
            System.out.println("does not hold: " + what);
        }
    }

    private static void example() {
        // example begins
        SiteChoice s = new SiteChoice();
        int north = s.district(10);
        int south = s.district(20);
        int school = s.place(0, 0, 500, 30);
        int hall = s.place(300, 400, 700, 20);
        s.walk(north, school, 120);
        s.walk(south, school, 900);
        s.walk(south, hall, 200);
        int found = s.run(100000);
        int forSouth = s.of(south);
        boolean opened = s.chosen(school);
        long sum = s.sum();
        s.walk(north, hall, 100);
        int exchanged = s.improve(5);
        long gain = s.gain(hall);
        long cost = s.years(1);
        int open = s.open(hall, 0);
        s.fair(north, 90);
        int none = s.run(100000);
        int unserved = s.clash(0);
        // example ends
        due("north", north, 0);
        due("south", south, 1);
        due("school", school, 0);
        due("hall", hall, 1);
        due("found", found, 0);
        due("forSouth", forSouth, 1);
        due("opened", opened ? 1 : 0, 1);
        due("sum", sum, 5200);
        due("exchanged", exchanged, 0);
        due("gain", gain, 200);
        due("cost", cost, 6400);
        due("open", open, 1);
        due("none", none, 2);
        due("unserved", unserved, 0);
    }

    /** The lines of a file between two, without their comments. */
    private static List<String> between(Path file, String first, String last) throws IOException {
        List<String> lines = new ArrayList<>();
        boolean isInside = false;
        for (String line : Files.readAllLines(file)) {
            if (isInside && line.strip().equals(last)) {
                return lines;
            }
            if (isInside) {
                lines.add(line.replaceAll("//.*", "").strip());
            }
            isInside = isInside || line.strip().equals(first);
        }
        return lines;
    }

    private static void checkExampleIsTheReadmes() throws IOException {
        List<String> shown = between(README, "```java", "```");
        List<String> tried = between(THIS, "// example begins", "// example ends");
        check("README.md shows an example", shown.size() > 1);
        check("README.md's example is the one tried here:\n" + shown + "\n" + tried, shown.equals(tried));
    }

    private static void checkNoCallIsLeftOut() throws IOException {
        String readme = Files.readString(README);
        String refused = readme.substring(Math.max(0, readme.indexOf("## What a refused call answers")));
        for (Method m : SiteChoice.class.getDeclaredMethods()) {
            if (Modifier.isPublic(m.getModifiers())) {
                check("README.md says what a refused " + m.getName() + " answers", refused.contains("`" + m.getName() + "("));
            }
        }
        check("README.md says how the tests are run", readme.contains(".ci/run"));
    }

    public static void main(String[] args) throws IOException {
        example();
        checkExampleIsTheReadmes();
        checkNoCallIsLeftOut();
        System.out.println(wrong == 0 ? "README.md is as due" : wrong + " things in README.md are not as due");
        if (wrong != 0) {
            System.exit(1);
        }
    }
}
