import java.io.IOException;
import java.lang.reflect.Method;
import java.lang.reflect.Modifier;
import java.nio.file.DirectoryStream;
import java.nio.file.Files;
import java.nio.file.Path;
import java.util.ArrayList;
import java.util.List;
import java.util.Set;
import java.util.TreeSet;
import java.util.regex.Matcher;
import java.util.regex.Pattern;

/** README.md: its example gives the answers that it tells, and it names each call, each class inside and each test. */
public final class ReadmeTest {
    private static final Path TESTS = Path.of("src/test/java");

    public static void main(String[] args) throws IOException {
        String readme = Files.readString(Path.of("README.md"));
        exampleAnswersAsTold();
        exampleIsTheOneRunHere(readme);
        answersAreTheConstants(readme);
        namesOf(readme);
        testsOf(readme);
        Due.end();
    }

    private static void hold(String what, boolean holds) {
        Due.due(what, holds ? 1 : 0, 1);
    }

    /** The lines of the example stand here as they stand there. */
    private static void exampleAnswersAsTold() {
        StalkRoom room = new StalkRoom();
        int stalks = room.stalks(49, 4, true);   // 49 stalks, counted off by 4, with a finger
        int coins = room.caster(true);
        room.odds(stalks, 6);                    // the odds of a 6 ..
        long upper = room.upper();               // .. are 77
        long lower = room.lower();               // .. by 1612
        int old = room.draw(0, stalks, 12345L);  // figure 0 is drawn: 1 of its lines is old
        int number = room.number(0);             // 1: its lowest line alone is whole
        int changed = room.act(0, 0, 1);         // figure 1 is figure 0, changed: 0
        int acts = room.way(number, 63, 511);    // from 1 to 63: 2 acts ..
        int first = room.step(0);                // .. the first changes line 0 (0)
        int second = room.step(1);               // .. the second is OPPOSITE (7)
        room.record(0, coins, 5L, 64);           // row 0 holds 64 lines that the coins drew
        int nearest = room.nearest(0);           // they are nearest to caster 1, the coins
        int torn = room.tear(3);                 // refused, FINDING: row 3 is missing ..
        int finding = room.finding();            // .. so it was finding 1, NOTHING
        Due.due("coins", coins, 1);
        Due.due("upper", upper, 77);
        Due.due("lower", lower, 1612);
        Due.due("old", old, 1);
        Due.due("number", number, 1);
        Due.due("changed", changed, 0);
        Due.due("acts", acts, 2);
        Due.due("first", first, 0);
        Due.due("second", second, 7);
        Due.due("nearest", nearest, 1);
        Due.due("torn", torn, StalkRoom.FINDING);
        Due.due("finding", finding, 1);
    }

    private static void exampleIsTheOneRunHere(String readme) throws IOException {
        Matcher block = Pattern.compile("(?s)```java\n(.*?)```").matcher(readme);
        hold("there is an example", block.find());
        String here = trimmed(Files.readString(TESTS.resolve("ReadmeTest.java")));
        hold("the example is the one run here", here.contains(trimmed(block.group(1))));
        hold("there is one example", !block.find());
    }

    private static String trimmed(String text) {
        List<String> lines = new ArrayList<>();
        for (String line : text.split("\n")) {
            lines.add(line.strip());
        }
        return String.join("\n", lines) + "\n";
    }

    private static void answersAreTheConstants(String readme) {
        String[] answers = {"BAD", "FULL", "STATE", "FINDING", "NONE"};
        int[] values = {StalkRoom.BAD, StalkRoom.FULL, StalkRoom.STATE, StalkRoom.FINDING, StalkRoom.NONE};
        for (int i = 0; i < answers.length; i++) {
            hold("README.md tells " + answers[i], readme.contains("`" + answers[i] + "` (" + values[i] + ")"));
        }
        for (Fixture.Refusal why : Fixture.Refusal.values()) {
            hold("README.md tells " + why, why.finding == 0 || readme.contains(why.finding + " " + why));
        }
    }

    private static void namesOf(String readme) {
        for (Method m : StalkRoom.class.getDeclaredMethods()) {
            hold("README.md names " + m.getName(),
                !Modifier.isPublic(m.getModifiers()) || readme.contains("`" + m.getName() + "`"));
        }
        for (Class<?> c : StalkRoom.class.getDeclaredClasses()) {
            hold("README.md names " + c.getSimpleName(), readme.contains("`" + c.getSimpleName() + "`"));
        }
    }

    /** Each file of tests is named, and each test that is named is there. */
    private static void testsOf(String readme) throws IOException {
        Set<String> there = new TreeSet<>();
        try (DirectoryStream<Path> files = Files.newDirectoryStream(TESTS, "*.java")) {
            for (Path file : files) {
                there.add(file.getFileName().toString().replace(".java", ""));
            }
        }
        for (String name : there) {
            hold("README.md names " + name, readme.contains("`" + name + "`"));
        }
        Matcher named = Pattern.compile("`(\\w+Test)`").matcher(readme);
        while (named.find()) {
            hold("there is a " + named.group(1), there.contains(named.group(1)));
        }
    }
}
