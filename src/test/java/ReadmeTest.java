import java.io.IOException;
import java.lang.reflect.Method;
import java.lang.reflect.Modifier;
import java.nio.file.Files;
import java.nio.file.Path;
import java.util.ArrayList;
import java.util.List;
import java.util.regex.Matcher;
import java.util.regex.Pattern;

/** README.md's example answers what its comments say, and every call is named there; runs in the project's folder. */
public final class ReadmeTest {
    private static int wrong = 0;
    private static final List<String> calls = new ArrayList<>();
    private static final List<Integer> answers = new ArrayList<>();

    private static int did(String call, int answer) {
        calls.add(call);
        answers.add(answer);
        return answer;
    }

    private static void complain(String text) {
        wrong++;
        System.out.println(text);
    }

    /** The example, call by call as it stands in README.md. */
    private static void example() {
        HouseSorted house = new HouseSorted();
        did("house.feed(0x76616e203530203bL);", house.feed(0x76616e203530203bL));
        did("house.laws();", house.laws());
        int ann = did("int ann = house.heir();", house.heir());
        int ben = did("int ben = house.heir();", house.heir());
        int clock = did("int clock = house.thing(12, 30, 60, 0, 8);", house.thing(12, 30, 60, 0, 8));
        did("house.worth(ben, clock, 40);", house.worth(ben, clock, 40));
        did("house.told(clock, 5);", house.told(clock, 5));
        did("house.bid(clock);", house.bid(clock));
        did("house.settled(ben, 3);", house.settled(ben, 3));
        did("house.loads(0);", house.loads(0));
        did("house.sheet(0, 2, 1);", house.sheet(0, 2, 1));
        did("house.lay(0, 0, 70);", house.lay(0, 0, 70));
        did("house.worths(ann, 0, 2, 0);", house.worths(ann, 0, 2, 0));
        did("house.fairest();", house.fairest());
    }

    private static void compareExample(String readme) {
        Matcher block = Pattern.compile("(?s)```java\n(.*?)```").matcher(readme);
        if (!block.find()) {
            complain("README.md has no example");
            return;
        }
        String[] lines = block.group(1).split("\n");
        if (lines.length != calls.size() + 1 || !lines[0].equals("HouseSorted house = new HouseSorted();")) {
            complain("README.md's example has other lines than this test");
            return;
        }
        for (int i = 0; i < calls.size(); i++) {
            Matcher line = Pattern.compile("(.*?;) +// (-?\\d+)(: .*)?").matcher(lines[i + 1]);
            if (!line.matches() || !line.group(1).equals(calls.get(i))) {
                complain("README.md has '" + lines[i + 1] + "' where this test has '" + calls.get(i) + "'");
            } else if (Integer.parseInt(line.group(2)) != answers.get(i)) {
                complain(lines[i + 1] + " answered " + answers.get(i));
            }
        }
    }

    private static void everyCallIsNamed(String readme) {
        for (Method m : HouseSorted.class.getDeclaredMethods()) {
            if (Modifier.isPublic(m.getModifiers()) && !readme.contains("`" + m.getName() + "(")) {
                complain("README.md does not name " + m.getName());
            }
        }
    }

    public static void main(String[] args) throws IOException {
        String readme = Files.readString(Path.of("README.md"));
        example();
        compareExample(readme);
        everyCallIsNamed(readme);
        if (!readme.contains(".ci/run")) {
            complain("README.md does not say how to run the tests");
        }
        System.out.println(wrong == 0 ? "README.md is as due" : wrong + " things of README.md are not as due");
        if (wrong != 0) {
            System.exit(1);
        }
    }
}
