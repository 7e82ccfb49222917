import java.io.IOException;
import java.nio.charset.StandardCharsets;
import java.nio.file.Files;
import java.nio.file.Path;
import java.util.regex.Matcher;
import java.util.regex.Pattern;

/** What of LANGUAGE.md can be seen by looking at the words of the program; run where src stands. */
public final class LanguageTest {
    private static final String[] NEVER = {
        "import", "package", "throw", "throws", "try", "catch", "finally", "synchronized", "assert", "native",
        "volatile", "transient", "protected", "hashCode", "toString", "Exact", "Object", "Random", "Thread",
        "currentTimeMillis", "nanoTime", "var", "while\\s*\\(\\s*true", "for\\s*\\(\\s*;", "->", "::",
        "static\\s*\\{", "new\\s+\\w+\\s*\\([^)]*\\)\\s*\\{",
    };

    public static void main(String[] args) throws IOException {
        Check check = new Check();
        check.topic("the language");
        Path path = Path.of("src/main/java/HurtSpeech.java");
        String text = new String(Files.readAllBytes(path), StandardCharsets.ISO_8859_1);
        check.holds("signs are 1 to 127", text.chars().allMatch(c -> c >= 1 && c <= 127));
        String code = withoutComments(text);
        for (String word : NEVER) {
            boolean isWord = Character.isLetter(word.charAt(0));
            String pattern = isWord ? "\\b" + word + (Character.isLetter(word.charAt(word.length() - 1)) ? "\\b" : "")
                    : word;
            check.holds("the program has no " + word, !Pattern.compile(pattern).matcher(code).find());
        }
        check.holds("at most twelve classes", countOf("\\b(class|enum|record|interface)\\s+\\w+", code) <= 12);
        staticFieldsAreFinal(check, code);
        methodsAreShort(check, code);
        check.end();
    }

    private static String withoutComments(String text) {
        String shorter = text.replaceAll("//[^\n]*", "");
        return Pattern.compile("(?s)/\\*.*?\\*/").matcher(shorter).replaceAll("");
    }

    private static int countOf(String pattern, String code) {
        Matcher matcher = Pattern.compile(pattern).matcher(code);
        int count = 0;
        while (matcher.find()) {
            count++;
        }
        return count;
    }

    private static void staticFieldsAreFinal(Check check, String code) {
        for (String line : code.split("\n")) {
            boolean isField = line.matches("\\s+(private )?static [^(]*;\\s*") || line.contains("static") && line.contains("=");
            check.holds("a static field is final: " + line.trim(), !isField || line.contains("final"));
        }
    }

    private static void methodsAreShort(Check check, String code) {
        String[] lines = code.split("\n");
        for (int i = 0; i < lines.length; i++) {
            if (!lines[i].matches("\\s+[\\w\\[\\] ]+\\([^;]*") || lines[i].matches("\\s*(if|for|while|return|\\}).*")) {
                continue;
            }
            String indent = lines[i].replaceAll("\\S.*", "");
            int end = i;
            while (end < lines.length && !lines[end].equals(indent + "}")) {
                end++;
            }
            check.holds("a method of at most sixty lines: " + lines[i].trim(), end - i < 60);
        }
    }
}
