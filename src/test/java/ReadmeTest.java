import java.io.IOException;
import java.lang.reflect.Method;
import java.lang.reflect.Modifier;
import java.nio.file.Files;
import java.nio.file.Path;
import java.util.HashMap;
import java.util.Map;
import java.util.regex.Matcher;
import java.util.regex.Pattern;

/** README.md: its example answers what stands beside it, its text is one, and no call is left out; run where it stands. */
public final class ReadmeTest {
    private static final Pattern LINE = Pattern.compile("(?:int (\\w+) = )?x\\.(\\w+)\\(([^)]*)\\);\\s*// (-?\\d+)\\b.*");
    private static final Check check = new Check();

    public static void main(String[] args) throws IOException, ReflectiveOperationException {
        String readme = Files.readString(Path.of("README.md"));
        example(readme);
        text(readme);
        allCallsAreNamed(readme);
        check.end();
    }

    private static void example(String readme) throws ReflectiveOperationException {
        check.topic("the example");
        int start = readme.indexOf("```java\n");
        int end = readme.indexOf("\n```", start + 1);
        check.holds("there is one", start >= 0 && end > start);
        String[] lines = readme.substring(start + 8, end).split("\n");
        check.holds("it makes an object first", lines[0].equals("HurtSpeech x = new HurtSpeech();"));
        HurtSpeech x = new HurtSpeech();
        Map<String, Integer> named = new HashMap<>();
        for (int i = 1; i < lines.length; i++) {
            Matcher line = LINE.matcher(lines[i]);
            check.holds("a call with its answer: " + lines[i], line.matches());
            int answer = answerOf(x, line.group(2), line.group(3).split(", "), named);
            check.due(lines[i], answer, Integer.parseInt(line.group(4)));
            named.put(String.valueOf(line.group(1)), answer);
        }
    }

    private static int answerOf(HurtSpeech x, String name, String[] told, Map<String, Integer> named)
            throws ReflectiveOperationException {
        Class<?>[] types = new Class<?>[told.length];
        Object[] values = new Object[told.length];
        for (int i = 0; i < told.length; i++) {
            types[i] = int.class;
            values[i] = named.containsKey(told[i]) ? named.get(told[i]) : Integer.valueOf(told[i]);
        }
        return (Integer) HurtSpeech.class.getMethod(name, types).invoke(x, values);
    }

    private static void text(String readme) {
        check.topic("the text");
        String text = "exile pride 7 has 0 1; clerk; speech 1 0 40 at 0";
        check.holds("it stands there", readme.contains("`" + text + "`"));
        check.due("congress()", Check.congress(new HurtSpeech(), text), 3);
    }

    private static void allCallsAreNamed(String readme) {
        check.topic("the calls");
        for (Method method : HurtSpeech.class.getDeclaredMethods()) {
            if (Modifier.isPublic(method.getModifiers())) {
                check.holds(method.getName() + " is named", readme.contains("`" + method.getName() + "`"));
            }
        }
    }
}
