import java.io.IOException;
import java.lang.reflect.Field;
import java.lang.reflect.Method;
import java.lang.reflect.Modifier;
import java.util.Arrays;
import java.util.Set;
import java.util.TreeSet;

/** What of LANGUAGE.md can be seen by looking at the words of the program; run where src stands. */
public final class LanguageTest {
    private static final String[] NEVER = {
        "import", "package", "throw", "throws", "try", "catch", "finally", "synchronized", "assert", "native",
        "volatile", "transient", "protected", "hashCode", "toString", "Object", "Random", "Thread",
        "currentTimeMillis", "nanoTime", "var", "while\\s*\\(\\s*true", "for\\s*\\(\\s*;", "->", "::",
        "static\\s*\\{", "new\\s+\\w+\\s*\\([^)]*\\)\\s*\\{", "\"\\s*\\+", "\\+\\s*\"",
    };

    /** Rule 4, and the names of types of rule 3. */
    private static final Set<String> TYPES = Set.of("String", "StringBuilder", "Integer", "Long", "Math", "System",
            "Arrays", "ArrayList", "List", "Iterator", "Iterable", "Comparable");
    private static final String OF_CLASSES = "((Math|Integer|Long)\\.(?!\\w*Exact\\()[a-z]\\w*|System\\.arraycopy"
            + "|Arrays\\.(copyOf|copyOfRange|fill)|List\\.of)\\(";
    private static final Set<String> OF_OBJECTS = Set.of("length", "charAt", "isEmpty", "equals", "indexOf",
            "substring", "toCharArray", "append", "setCharAt", "setLength", "deleteCharAt", "reverse", "add", "get",
            "set", "remove", "size", "clear", "clone");

    private static final Check check = new Check();

    public static void main(String[] args) throws IOException {
        Source source = Source.ofTheProgram();
        noStrangeWords(source);
        sourceIsReadWhole(source);
        typesAreThoseOfTheRules(source);
        libraryIsThatOfTheRules(source);
        staticFieldsAreFinal(source);
        methodsAreShort(source);
        callsGoEightDeep(source);
        noCallMakesAnObject(source);
        classesAreFewAndSmall();
        whatTheRulesForbidIsSeen();
        check.end();
    }

    private static void noStrangeWords(Source source) {
        check.topic("rules 2, 6, 9, 10 and 13");
        check.holds("signs are 1 to 127", source.text.chars().allMatch(c -> c >= 1 && c <= 127));
        for (String word : NEVER) {
            boolean isWord = Character.isLetter(word.charAt(0));
            String pattern = isWord ? "\\b" + word + (Character.isLetter(word.charAt(word.length() - 1)) ? "\\b" : "")
                    : word;
            check.holds("the program has no " + word, !source.has(pattern));
        }
    }

    /** Else the tests below would look at less than there is. */
    private static void sourceIsReadWhole(Source source) {
        check.topic("the source as it is read here");
        Set<String> names = new TreeSet<>(Set.of("HurtSpeech"));
        int methods = 1;
        for (Class<?> type : classes()) {
            for (Method method : type.getDeclaredMethods()) {
                names.add(method.getName());
                methods++;
            }
        }
        check.holds("all methods are found", names.equals(new TreeSet<>(source.bodies.keySet())));
        check.due("methods, no two of one name", names.size(), methods);
    }

    private static Class<?>[] classes() {
        Class<?>[] inside = HurtSpeech.class.getDeclaredClasses();
        Class<?>[] all = Arrays.copyOf(inside, inside.length + 1);
        all[inside.length] = HurtSpeech.class;
        return all;
    }

    private static Set<String> ownNames() {
        Set<String> names = new TreeSet<>();
        for (Class<?> type : classes()) {
            names.add(type.getSimpleName());
        }
        return names;
    }

    private static Set<String> strangeTypes(Source source) {
        Set<String> types = source.all("\\b[A-Z]\\w*[a-z]\\w*");
        types.removeAll(TYPES);
        types.removeAll(ownNames());
        return types;
    }

    private static void typesAreThoseOfTheRules(Source source) {
        check.topic("rule 3");
        check.holds("no strange types: " + strangeTypes(source), strangeTypes(source).isEmpty());
        check.holds("no arrays of three dimensions", !source.has("\\[[^\\]]*\\]\\s*\\[[^\\]]*\\]\\s*\\["));
    }

    /** A constant such as the greatest int of Integer is no function, so it is none of what rule 4 has. */
    private static Set<String> strangeOfClasses(Source source) {
        Set<String> used = source.all("\\b(Math|Integer|Long|System|Arrays|List|String)\\.\\w+\\(?");
        used.removeIf(use -> use.matches(OF_CLASSES));
        return used;
    }

    private static Set<String> strangeCalls(Source source) {
        Set<String> calls = new TreeSet<>();
        for (String name : source.bodies.keySet()) {
            calls.addAll(source.callsOf(name));
        }
        calls.removeAll(source.bodies.keySet());
        calls.removeAll(OF_OBJECTS);
        calls.removeIf(call -> source.has("\\b(Math|Integer|Long|System|Arrays|List)\\." + call + "\\("));
        return calls;
    }

    private static void libraryIsThatOfTheRules(Source source) {
        check.topic("rule 4");
        check.holds("nothing strange of a class: " + strangeOfClasses(source), strangeOfClasses(source).isEmpty());
        check.holds("no strange calls: " + strangeCalls(source), strangeCalls(source).isEmpty());
    }

    private static void staticFieldsAreFinal(Source source) {
        check.topic("rule 5");
        for (String line : source.code.split("\n")) {
            boolean isField = line.matches("\\s+(private )?static [^(]*;\\s*") || line.contains("static") && line.contains("=");
            check.holds("a static field is final: " + line.trim(), !isField || line.contains("final"));
        }
    }

    private static void methodsAreShort(Source source) {
        check.topic("rule 11, methods");
        for (String name : source.bodies.keySet()) {
            check.holds(name + " has at most sixty lines", source.bodies.get(name).split("\n").length <= 60);
        }
    }

    private static void callsGoEightDeep(Source source) {
        check.topic("rule 11, calls");
        int most = 0;
        for (String name : source.bodies.keySet()) {
            int depth = source.depthOf(name, 0);
            check.holds(name + " goes " + depth + " deep, at most eight", depth <= 8);
            most = Math.max(most, depth);
        }
        check.holds("a depth is seen at all", most > 4);
    }

    /** So the room that a run has is used by constructors alone. */
    private static void noCallMakesAnObject(Source source) {
        check.topic("rule 12");
        for (String name : source.bodies.keySet()) {
            boolean makes = source.bodies.get(name).matches("(?s).*(\\bnew\\b|\\bclone\\(|\\bcopyOf).*");
            check.holds(name + " makes nothing", !makes || name.equals("HurtSpeech"));
        }
    }

    private static void classesAreFewAndSmall() {
        check.topic("rule 11, classes");
        check.holds("at most twelve classes", classes().length <= 12);
        for (Class<?> type : classes()) {
            int fields = 0;
            for (Field field : type.getDeclaredFields()) {
                fields += Modifier.isStatic(field.getModifiers()) ? 0 : 1;
            }
            check.holds(type + " has at most twenty fields", fields <= 20);
        }
    }

    /** The looks above are looked at themselves, with lines that break the rules. */
    private static void whatTheRulesForbidIsSeen() {
        check.topic("the looks themselves");
        Source wrong = new Source("    void a() {\n        int b = Integer.MAX_VALUE + Math.addExact(1, 2);\n"
                + "        c(Math.max(b, 1));\n    }\n    void c(int v) {\n        Objects.hash(d(v));\n    }\n"
                + "    int d(int v) {\n        return e(v);\n    }\n    int e(int v) {\n        return d(v);\n    }\n");
        check.holds("a constant and a name in Exact are seen",
                strangeOfClasses(wrong).equals(Set.of("Integer.MAX_VALUE", "Math.addExact(")));
        check.holds("a strange type is seen", strangeTypes(wrong).equals(Set.of("Objects")));
        check.holds("a strange call is seen", strangeCalls(wrong).equals(Set.of("hash")));
        check.holds("a ring of calls is seen", wrong.depthOf("a", 0) > 99);
        check.due("depth of what calls nothing of its own", wrong.depthOf("max", 0), 1);
    }
}
