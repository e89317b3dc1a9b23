import java.io.IOException;
import java.nio.file.Files;
import java.nio.file.Path;
import java.util.regex.Matcher;
import java.util.regex.Pattern;

/** The run of calls that README.md shows: each is made, and answers what stands behind it there. */
public final class ReadmeTest {
    private static final Due DUE = new Due("ReadmeTest");

    private static final Pattern TEXT = Pattern.compile("for \\(char c : \"(\\w+)\"");
    private static final Pattern CALL = Pattern.compile("x\\.(\\w+)\\(([^c)]*)\\);\\s*// (-?\\d+):.*");

    public static void main(String[] args) throws ReflectiveOperationException, IOException {
        LateLetters x = new LateLetters();
        boolean written = false;
        for (String line : Files.readAllLines(Path.of("README.md"))) {
            Matcher text = TEXT.matcher(line);
            Matcher call = CALL.matcher(line);
            if (text.find()) {
                Due.write(x, text.group(1));
                written = true;
            } else if (call.matches()) {
                DUE.is(line, answer(x, call.group(1), call.group(2)), Long.parseLong(call.group(3)));
            } else {
                DUE.holds("a call without an answer: " + line, !line.startsWith("x."));
            }
        }
        DUE.holds("README.md writes a TEXT", written);
        DUE.end();
    }

    private static long answer(LateLetters x, String name, String words) throws ReflectiveOperationException {
        String[] each = words.isEmpty() ? new String[0] : words.split(", ");
        Class<?>[] types = new Class<?>[each.length];
        Object[] values = new Object[each.length];
        for (int i = 0; i < each.length; i++) {
            if (each[i].equals("true") || each[i].equals("false")) {
                types[i] = boolean.class;
                values[i] = Boolean.valueOf(each[i]);
            } else if (each[i].endsWith("L")) {
                types[i] = long.class;
                values[i] = Long.valueOf(each[i].substring(0, each[i].length() - 1));
            } else {
                types[i] = int.class;
                values[i] = Integer.valueOf(each[i]);
            }
        }
        return ((Number) LateLetters.class.getMethod(name, types).invoke(x, values)).longValue();
    }
}
