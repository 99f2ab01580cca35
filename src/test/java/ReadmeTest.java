import java.lang.reflect.Method;
import java.nio.charset.StandardCharsets;
import java.nio.file.Files;
import java.nio.file.Path;
import java.util.Arrays;
import java.util.regex.Matcher;
import java.util.regex.Pattern;

/** Runs the example in README.md, call by call, and compares each answer with the number behind it. */
public final class ReadmeTest {
    private static final Pattern CALL = Pattern.compile("(?m)^office\\.(\\w+)\\(([^)]*)\\); *// (-?\\d+)");

    public static void main(String[] args) throws Exception {
        Check check = new Check();
        check.begin("README.md");
        String readme = Files.readString(Path.of("README.md"), StandardCharsets.UTF_8);
        RationOffice office = new RationOffice();
        Matcher matcher = CALL.matcher(readme);
        int calls = 0;
        while (matcher.find()) {
            check.due(matcher.group(), call(office, matcher.group(1), matcher.group(2)),
                Integer.parseInt(matcher.group(3)));
            calls++;
        }
        check.due("calls with an answer", calls, readme.split("(?m)^office\\.", -1).length - 1);
        check.finish();
    }

    private static int call(RationOffice office, String name, String list) throws Exception {
        String[] texts = list.isEmpty() ? new String[0] : list.split(", ");
        Object[] arguments = new Object[texts.length];
        Class<?>[] types = new Class<?>[texts.length];
        Arrays.fill(types, int.class);
        for (int index = 0; index < texts.length; index++) {
            arguments[index] = Integer.decode(texts[index]);
        }
        Method method = RationOffice.class.getMethod(name, types);
        return (Integer) method.invoke(office, arguments);
    }
}
