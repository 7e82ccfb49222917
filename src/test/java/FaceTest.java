import java.lang.reflect.Constructor;
import java.lang.reflect.Field;
import java.lang.reflect.Method;
import java.lang.reflect.Modifier;
import java.util.Arrays;
import java.util.Set;
import java.util.TreeSet;

/** The public face: just what the document has, and nothing else that can be seen from outside. */
public final class FaceTest {
    private static final String[] FACE = {
        "int delegate(int)", "int of(int,int)", "int set(int,int,int)", "int turn(int,int)", "int as(int,int)",
        "int speech(int,int,int,int)", "int speechOf(int,int)", "int tell(int,int,int)", "int loses(int,int)",
        "int renders(int,int)", "int hurts(int)", "int sessions(int)", "int now(int)", "int on(int,int,int)",
        "int left(int,int)", "int weeps(int)", "int when(int,int)", "int tongue(int,int)", "int aim(int,int,int)",
        "int kind(int,int)", "int pride(int,int,int)", "int learn(int,int)", "int withdraw(int)",
        "int saddest(int)", "int feed(int,int)", "int wipe()", "int congress()", "int sheet(int,int,int)",
        "long write(int,int,long)", "int copy(int,int,int,int,int)", "int lays(int)", "int book(int,int)",
        "int read(int,int,int)", "int image()", "int undo()", "int tear()", "int count(int)", "int status(int)",
    };

    public static void main(String[] args) {
        Check check = new Check();
        check.topic("the face");
        Class<?> face = HurtSpeech.class;
        check.holds("the class is public and final",
                Modifier.isPublic(face.getModifiers()) && Modifier.isFinal(face.getModifiers()));
        check.holds("it has one constructor, public and without parameters", hasOneConstructor(face));
        Set<String> seen = new TreeSet<>();
        Set<String> names = new TreeSet<>();
        for (Method method : face.getDeclaredMethods()) {
            if (!Modifier.isPrivate(method.getModifiers())) {
                check.holds(method + " is public and no static one", method.getModifiers() == Modifier.PUBLIC);
                seen.add(told(method));
                names.add(method.getName());
            }
        }
        Set<String> due = new TreeSet<>(Arrays.asList(FACE));
        check.holds("the methods are " + due + ", not " + seen, due.equals(seen));
        for (Field field : face.getDeclaredFields()) {
            check.holds(field + " is private", Modifier.isPrivate(field.getModifiers()));
        }
        noOtherBearsAName(check, face, names);
        for (Class<?> inner : face.getDeclaredClasses()) {
            check.holds(inner + " is static and not public", Modifier.isStatic(inner.getModifiers())
                    && !Modifier.isPublic(inner.getModifiers()) && !Modifier.isProtected(inner.getModifiers()));
            noOtherBearsAName(check, inner, names);
        }
        check.end();
    }

    private static boolean hasOneConstructor(Class<?> face) {
        Constructor<?>[] all = face.getDeclaredConstructors();
        return all.length == 1 && Modifier.isPublic(all[0].getModifiers()) && all[0].getParameterCount() == 0;
    }

    private static void noOtherBearsAName(Check check, Class<?> type, Set<String> names) {
        for (Method method : type.getDeclaredMethods()) {
            boolean ofTheFace = Modifier.isPublic(method.getModifiers()) && type == HurtSpeech.class;
            check.holds(method + " bears no name of the face", ofTheFace || !names.contains(method.getName()));
            check.holds(method + " has at most seven parameters", method.getParameterCount() <= 7);
        }
    }

    private static String told(Method method) {
        StringBuilder text = new StringBuilder();
        text.append(method.getReturnType()).append(' ').append(method.getName()).append('(');
        for (int i = 0; i < method.getParameterCount(); i++) {
            text.append(i == 0 ? "" : ",").append(method.getParameterTypes()[i]);
        }
        return text.append(')').toString();
    }
}
