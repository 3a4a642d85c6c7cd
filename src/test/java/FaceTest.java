import java.lang.reflect.Constructor;
import java.lang.reflect.Field;
import java.lang.reflect.Method;
import java.lang.reflect.Modifier;
import java.util.Set;
import java.util.TreeSet;

/** The class shows the document's face, and nothing else. */
public final class FaceTest {
    private static final String[] FACE = {
        "FuzzyWords()", "int BAD", "int NONE", "int FULL", "int TOO_MANY",
        "int feed(int, int, int, int, int)", "int end(int)", "int byteOf(int)", "int add(int)", "int drop(int)",
        "int word(int, int)", "int distance(int, int, boolean)", "int near(int, boolean, int)", "int wild()",
        "int regular()", "int between(int, boolean, boolean)", "int place()", "int keep()", "int make(int)",
        "int same()", "int next(int, int)", "int accepts(int)", "long number(int)", "int shortest()",
        "int walk()", "int taken(int)", "int steps()", "int best(int)", "int count(int)"};

    private static String list(Class<?>[] types) {
        StringBuilder text = new StringBuilder("(");
        for (Class<?> type : types) {
            text.append(text.length() > 1 ? ", " : "").append(type.getName());
        }
        return text.append(')').toString();
    }

    private static void note(Set<String> face, int modifiers, String member) {
        if (Modifier.isPublic(modifiers)) {
            face.add(member);
        } else if (!Modifier.isPrivate(modifiers)) {
            face.add("neither public nor private: " + member);
        }
    }

    public static void main(String[] args) {
        Set<String> face = new TreeSet<>();
        Class<?> type = FuzzyWords.class;
        for (Constructor<?> made : type.getDeclaredConstructors()) {
            note(face, made.getModifiers(), "FuzzyWords" + list(made.getParameterTypes()));
        }
        for (Field field : type.getDeclaredFields()) {
            note(face, field.getModifiers(), field.getType().getName() + " " + field.getName());
        }
        for (Method method : type.getDeclaredMethods()) {
            String name = method.getName() + list(method.getParameterTypes());
            note(face, method.getModifiers(), method.getReturnType().getName() + " " + name);
        }
        boolean right = face.equals(new TreeSet<>(Set.of(FACE))) && Modifier.isFinal(type.getModifiers());
        System.out.println("FaceTest: the face is " + (right ? "the document's" : "not the document's: " + face));
        if (!right) {
            System.exit(1);
        }
    }
}
