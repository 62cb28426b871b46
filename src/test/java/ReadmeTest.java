import java.lang.reflect.Method;
import java.nio.file.Files;
import java.nio.file.Path;
import java.util.Arrays;
import java.util.regex.Matcher;
import java.util.regex.Pattern;

/** README.md tells how the class is used: each call that it shows answers the number that stands behind it. */
public final class ReadmeTest {
    private static final Due due = new Due();
    private static final Pattern SCHOOL = Pattern.compile("put\\(x, (\"[^;]*;[^)]*\")\\);");
    private static final Pattern CALL = Pattern.compile("x\\.(\\w+)\\(([^)]*)\\); +// (-?\\d+): .*");

    public static void main(String[] args) throws Exception {
        LimpCode x = new LimpCode();
        Matcher school = SCHOOL.matcher(Files.readString(Path.of("README.md")));
        due.is("README.md shows a school", school.find(), true);
        Due.put(x, school.group(1).replaceAll("\"\\s*\\+\\s*\"", "").replace("\"", ""));
        int calls = 0;
        for (String line : Files.readAllLines(Path.of("README.md"))) {
            Matcher call = CALL.matcher(line);
            if (call.matches()) {
                calls++;
                due.is(line, answer(x, call.group(1), call.group(2)), Long.parseLong(call.group(3)));
            } else {
                due.is("a call without its answer: " + line, line.startsWith("x."), false);
            }
        }
        due.is("README.md shows calls", calls > 20, true);
        due.finish();
    }

    private static long answer(LimpCode x, String name, String given) throws Exception {
        int[] numbers = given.isEmpty() ? new int[0] : Arrays.stream(given.split(", ")).mapToInt(Integer::parseInt).toArray();
        Class<?>[] types = new Class<?>[numbers.length];
        Arrays.fill(types, int.class);
        Method method = LimpCode.class.getMethod(name, types);
        return ((Number) method.invoke(x, Arrays.stream(numbers).boxed().toArray())).longValue();
    }
}
