import java.io.IOException;
import java.lang.reflect.Method;
import java.lang.reflect.Modifier;
import java.nio.file.Files;
import java.nio.file.Path;
import java.util.Arrays;
import java.util.List;
import java.util.regex.Matcher;
import java.util.regex.Pattern;
import java.util.stream.Stream;

/** README.md tells answers that are due, all calls of the face, and all tests. */
public final class ReadmeTest {
    private static final Pattern CALL = Pattern.compile("racks\\.(\\w+)\\(([-0-9, ]*)\\); *// (-?[0-9]+): .*");
    private static final int CALLS_OF_THE_EXAMPLE = 12;
    private static final String TEST = "p03:0;v0:240;.12";

    private ReadmeTest() {
    }

    public static void main(String[] args) throws IOException, ReflectiveOperationException {
        String readme = Files.readString(Path.of("README.md"));
        answersAreDue(readme);
        testIsDone(readme);
        allCallsAreNamed(readme);
        allTestsAreNamed(readme);
        Check.end();
    }

    private static void answersAreDue(String readme) throws ReflectiveOperationException {
        LampRacks racks = new LampRacks();
        Matcher call = CALL.matcher(readme);
        int calls = 0;
        while (call.find()) {
            Check.due("README.md: " + call.group(), answer(racks, call.group(1), call.group(2)),
                    Integer.parseInt(call.group(3)));
            calls++;
        }
        Check.due("calls with answers in README.md", calls, CALLS_OF_THE_EXAMPLE);
    }

    private static int answer(LampRacks racks, String name, String list) throws ReflectiveOperationException {
        List<Integer> numbers = Stream.of(list.split(",")).map(String::strip).filter(number -> !number.isEmpty())
                .map(Integer::valueOf).toList();
        Class<?>[] types = new Class<?>[numbers.size()];
        Arrays.fill(types, int.class);
        return (int) LampRacks.class.getMethod(name, types).invoke(racks, numbers.toArray());
    }

    private static void testIsDone(String readme) {
        Check.due("README.md tells of " + TEST, readme.contains("`" + TEST + "`") ? 1 : 0, 1);
        LampRacks racks = new LampRacks();
        Check.due("perform()", Check.performText(racks, TEST), 3);
        Check.due("batch of the lamp", racks.lamp(racks.at(0, 3), 0), 0);
        Check.due("volts", racks.rack(0, 0), 240);
        Check.due("hour", racks.count(0), 12);
    }

    private static void allCallsAreNamed(String readme) {
        for (Method method : LampRacks.class.getDeclaredMethods()) {
            if (Modifier.isPublic(method.getModifiers())) {
                String name = "`" + method.getName() + "`";
                Check.due("README.md names " + name, readme.contains(name) ? 1 : 0, 1);
            }
        }
    }

    private static void allTestsAreNamed(String readme) throws IOException {
        try (Stream<Path> files = Files.list(Path.of("src", "test", "java"))) {
            for (Path file : files.toList()) {
                String name = file.getFileName().toString().replace(".java", "");
                if (name.endsWith("Test")) {
                    Check.due("README.md names " + name, readme.contains("`" + name + "`") ? 1 : 0, 1);
                }
            }
        }
    }
}
