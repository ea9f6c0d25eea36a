import java.io.IOException;
import java.nio.file.Files;
import java.nio.file.Path;
import java.util.regex.Matcher;
import java.util.regex.Pattern;

/** README.md: its run of calls answers what stands behind each, and no call of the face is left out. */
public final class ReadmeTest {
    private static final Pattern TOLD = Pattern.compile("tell\\(x, \"([^\"]*)\"\\);");
    private static final Pattern CALL = Pattern.compile("x\\.(\\w+)\\(([^)]*)\\);\\s+// (-?\\d+|true|false)\\b.*");

    public static void main(String[] args) throws IOException {
        String text = Files.readString(Path.of("README.md"));
        Check check = new Check();
        check.due("calls in the run", run(check, text) > 0, true);
        for (java.lang.reflect.Method m : LeftAnswers.class.getDeclaredMethods()) {
            if (java.lang.reflect.Modifier.isPublic(m.getModifiers())) {
                check.due(m.getName() + " is named", text.matches("(?s).*`" + m.getName() + "\\b.*"), true);
            }
        }
        check.close("ReadmeTest");
    }

    private static int run(Check check, String text) {
        LeftAnswers x = new LeftAnswers();
        int calls = 0;
        for (String line : text.split("\n")) {
            Matcher told = TOLD.matcher(line);
            Matcher call = CALL.matcher(line);
            if (told.matches()) {
                Check.feed(x, told.group(1));
            } else if (call.matches()) {
                calls++;
                check.due(line, Calls.of(x, call.group(1), numbers(call.group(2))), answer(call.group(3)));
            } else {
                check.due("a line of calls: " + line, line.startsWith("x.") || line.startsWith("tell("), false);
            }
        }
        return calls;
    }

    private static int[] numbers(String list) {
        String[] parts = list.isEmpty() ? new String[0] : list.split(", *");
        int[] numbers = new int[parts.length];
        for (int i = 0; i < parts.length; i++) {
            numbers[i] = (int) (long) Long.decode(parts[i]);
        }
        return numbers;
    }

    private static long answer(String written) {
        return written.equals("true") ? 1 : written.equals("false") ? 0 : Long.parseLong(written);
    }
}
