import java.io.File;
import java.lang.reflect.Method;
import java.lang.reflect.Modifier;
import java.nio.file.Files;
import java.nio.file.Path;
import java.util.ArrayList;
import java.util.List;

/**
 * README.md tells what is so: its example is the code below, line by line, with the answers that
 * it tells; it names every call of the face and every test of the project. It reads both files, so
 * it runs in the project's directory.
 */
public final class ReadmeTest {
    private static final String BEGINNING = "// The example begins.";
    private static final String END = "// The example ends.";

    public static void main(String[] args) throws Exception {
        Bench.sentence("README.md says how to use the class and how to run its tests");
        String readme = Files.readString(Path.of("README.md"));
        example();
        exampleIsTold(readme);
        facesAreTold(readme);
        testsAreTold(readme);
        Bench.end();
    }

    private static void example() {
        // The example begins.
        MusicBoxShop shop = new MusicBoxShop();
        int tooth = shop.tooth(36);      // 0: a tooth of c4
        shop.feed(0x63342F33, 0x20633420, 0x20202020, 0x20202020, 0x20202020);
        int notes = shop.read(7, 0);     // 2: the first 7 bytes, "c4/3 c4", are tune 0
        int needed = shop.fewest(0);     // 2: 3 ticks apart, and a tooth rests for 6
        int best = shop.best(0);         // 0: no shift keeps more
        int kept = shop.pin(0, best);    // 1: the first of two that weigh the same
        shop.feed(0x63342020, 0x20202020, 0x20202020, 0x20202020, 0x20202020);
        shop.read(2, 1);
        shop.pin(1, 0);
        int crowded = shop.crowds();     // 1: side by side on tooth 0, both at tick 0
        int tries = shop.arrange();      // 4: start 0 of tune 0; 0, 1 and 2 of tune 1
        int tick = shop.plucks(0, 1);    // 2: the second pin of tooth 0, with its start
        shop.breaks(0, true);
        int unheard = shop.listen();     // 2: both notes are silent
        int faults = shop.faults();      // 1: one fault tells both
        int broken = shop.suspect(0, 0); // 0: tooth 0
        // The example ends.
        int[] got = {tooth, notes, needed, best, kept, crowded, tries, tick, unheard, faults, broken};
        Bench.due("the example", got, 0, 2, 2, 0, 1, 1, 4, 2, 2, 1, 0);
    }

    private static void exampleIsTold(String readme) throws Exception {
        List<String> told = between(readme.lines().toList(), "```java", "```");
        String source = Files.readString(Path.of("src/test/java/ReadmeTest.java"));
        List<String> tested = between(source.lines().toList(), BEGINNING, END);
        Bench.due("lines of the example", tested.size() > 10, true);
        Bench.due("README's example is the tested one", told.equals(tested), true);
    }

    /** The lines between two lines, without the blanks around them. */
    private static List<String> between(List<String> lines, String beginning, String end) {
        List<String> found = new ArrayList<>();
        boolean inside = false;
        for (String line : lines) {
            if (inside && line.trim().equals(end)) {
                return found;
            }
            if (inside) {
                found.add(line.trim());
            }
            inside = inside || line.trim().equals(beginning);
        }
        return found;
    }

    private static void facesAreTold(String readme) {
        for (Method method : MusicBoxShop.class.getDeclaredMethods()) {
            if (Modifier.isPublic(method.getModifiers())) {
                Bench.due("README names " + method.getName(),
                        readme.contains("`" + method.getName() + "("), true);
            }
        }
    }

    private static void testsAreTold(String readme) {
        File[] tests = new File("src/test/java").listFiles();
        Bench.due("tests are found", tests != null && tests.length > 0, true);
        for (int n = 0; tests != null && n < tests.length; n++) {
            String name = tests[n].getName().replace(".java", "");
            Bench.due("README names " + name, readme.contains("`" + name + "`"), true);
        }
        Bench.due("README names .ci/run", readme.contains(".ci/run"), true);
    }
}
