import java.io.IOException;
import java.lang.reflect.Method;
import java.nio.file.Files;
import java.nio.file.Path;
import java.util.Arrays;
import java.util.HashSet;
import java.util.Set;
import java.util.regex.Matcher;
import java.util.regex.Pattern;

/** The example of README.md: each call answers what stands beside it, and shows every call of the class. */
public final class ReadmeTest {
    private static final Path README = Path.of("README.md");
    private static final Pattern CALL = Pattern.compile("camp\\.(\\w+)\\((.*)\\); +// (-?\\d+)(:.*)?");

    private static final Check check = new Check("ReadmeTest");

    private ReadmeTest() {
    }

    public static void main(String[] args) throws IOException, ReflectiveOperationException {
        String readme = Files.readString(README);
        int start = readme.indexOf("```java");
        CampWeek camp = new CampWeek();
        Set<String> shown = new HashSet<>();
        for (String line : readme.substring(start, readme.indexOf("```", start + 1)).split("\n")) {
            Matcher call = CALL.matcher(line);
            if (call.matches()) {
                shown.add(call.group(1));
                check.due(line, answer(camp, call.group(1), call.group(2)), Long.parseLong(call.group(3)));
            } else if (line.startsWith("camp.")) {
                check.fault("no call with its answer: " + line);
            }
        }
        for (Method m : CampWeek.class.getMethods()) {
            if (m.getDeclaringClass() == CampWeek.class) {
                check.due(m.getName() + " is shown", shown.contains(m.getName()) ? 1 : 0, 1);
            }
        }
        check.end();
    }

    private static long answer(CampWeek camp, String name, String list) throws ReflectiveOperationException {
        String numbers = list.replace("CampWeek.NONE", "" + CampWeek.NONE);
        Object[] arguments = list.isEmpty() ? new Object[0]
                : Arrays.stream(numbers.split(", ")).map(Integer::valueOf).toArray();
        Class<?>[] types = new Class<?>[arguments.length];
        Arrays.fill(types, int.class);
        return ((Number) CampWeek.class.getMethod(name, types).invoke(camp, arguments)).longValue();
    }
}
