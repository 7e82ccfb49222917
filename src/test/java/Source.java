import java.io.IOException;
import java.nio.charset.StandardCharsets;
import java.nio.file.Files;
import java.nio.file.Path;
import java.util.LinkedHashMap;
import java.util.LinkedHashSet;
import java.util.Map;
import java.util.Set;
import java.util.regex.Matcher;
import java.util.regex.Pattern;

/** The words of the program, looked at without its comments and without the insides of its texts. */
final class Source {
    private static final Set<String> NO_CALLS = Set.of("if", "for", "while", "switch", "return", "super", "this");
    private static final Pattern HEADER = Pattern.compile(
            "(?m)^( {4}| {8})(?:(?:public|private|static|final|abstract) )*(?:[\\w\\[\\]]+ )?(\\w+)\\([^;{]*\\) \\{$");

    final String text;
    final String code;
    /** The names of the methods and of the constructor, each with all that stands between its braces. */
    final Map<String, String> bodies = new LinkedHashMap<>();

    Source(String text) {
        this.text = text;
        String shorter = Pattern.compile("(?s)/\\*.*?\\*/").matcher(text.replaceAll("//[^\n]*", "")).replaceAll("");
        code = shorter.replaceAll("\"[^\"\n]*\"", "\"\"");
        Matcher matcher = HEADER.matcher(code);
        while (matcher.find()) {
            int end = code.indexOf("\n" + matcher.group(1) + "}\n", matcher.end());
            if (!NO_CALLS.contains(matcher.group(2)) && end >= 0) {
                String name = matcher.group(2);
                bodies.merge(name, code.substring(matcher.end(), end), String::concat);
            }
        }
    }

    /** Has to be called where src stands. */
    static Source ofTheProgram() throws IOException {
        Path path = Path.of("src/main/java/HurtSpeech.java");
        return new Source(new String(Files.readAllBytes(path), StandardCharsets.ISO_8859_1));
    }

    boolean has(String pattern) {
        return Pattern.compile(pattern).matcher(code).find();
    }

    Set<String> all(String pattern) {
        Set<String> found = new LinkedHashSet<>();
        Matcher matcher = Pattern.compile(pattern).matcher(code);
        while (matcher.find()) {
            found.add(matcher.group());
        }
        return found;
    }

    /** What a method calls: its own methods by their names, those of the library too. */
    Set<String> callsOf(String name) {
        Set<String> calls = new LinkedHashSet<>();
        Matcher matcher = Pattern.compile("(?<!new )\\b(\\w+)\\(").matcher(bodies.getOrDefault(name, ""));
        while (matcher.find()) {
            calls.add(matcher.group(1));
        }
        calls.removeAll(NO_CALLS);
        return calls;
    }

    /** How many calls stand open at once at the most, with this one; beyond 99 where they go in a ring. */
    int depthOf(String name, int open) {
        int most = 1;
        for (String called : open > 99 ? Set.<String>of() : callsOf(name)) {
            most = Math.max(most, 1 + depthOf(called, open + 1));
        }
        return most;
    }
}
