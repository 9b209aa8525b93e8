import java.lang.reflect.Constructor;
import java.lang.reflect.Field;
import java.lang.reflect.Method;
import java.lang.reflect.Modifier;
import java.util.Set;
import java.util.TreeSet;

/** The public face, and that nothing else of the class can be seen from outside. */
public final class FaceTest {
    private static final Checks CHECKS = new Checks();

    private static final Set<String> FACE = Set.of(
            "public static final int RecordMatch.NONE",
            "public RecordMatch()",
            "public int RecordMatch.record(int)",
            "public int RecordMatch.field(int,int)",
            "public void RecordMatch.sign(int,int)",
            "public int RecordMatch.isbn(int,int)",
            "public int RecordMatch.weight(int,long,long)",
            "public long RecordMatch.score(int,int,int) throws java.lang.ArithmeticException",
            "public int RecordMatch.candidates(int)",
            "public int RecordMatch.at(int)",
            "public int RecordMatch.merge(int,int)",
            "public int RecordMatch.winner(int,int)",
            "public int RecordMatch.undo(int)",
            "public int RecordMatch.locked(int,boolean)",
            "public int RecordMatch.index(int,int) throws java.lang.ArrayIndexOutOfBoundsException");

    public static void main(String[] args) {
        CHECKS.sentence("The public face");
        Set<String> seen = visibleMembers();
        for (String member : FACE) {
            CHECKS.due(member, seen.contains(member) ? 1 : 0, 1);
        }
        for (String member : seen) {
            CHECKS.due(member + " in the face", FACE.contains(member) ? 1 : 0, 1);
        }
        int modifiers = RecordMatch.class.getModifiers();
        CHECKS.due("public and final", Modifier.isPublic(modifiers) && Modifier.isFinal(modifiers) ? 1 : 0, 1);
        exactExceptions();
        CHECKS.end("FaceTest");
    }

    private static Set<String> visibleMembers() {
        Set<String> seen = new TreeSet<>();
        for (Method method : RecordMatch.class.getDeclaredMethods()) {
            if (!Modifier.isPrivate(method.getModifiers())) {
                seen.add(method.toString());
            }
        }
        for (Field field : RecordMatch.class.getDeclaredFields()) {
            if (!Modifier.isPrivate(field.getModifiers())) {
                seen.add(field.toString());
            }
        }
        for (Constructor<?> constructor : RecordMatch.class.getDeclaredConstructors()) {
            if (!Modifier.isPrivate(constructor.getModifiers())) {
                seen.add(constructor.toString());
            }
        }
        return seen;
    }

    /** The exceptions are of the very classes that the document names. */
    private static void exactExceptions() {
        CHECKS.sentence("7: throws ArithmeticException, 14: throws ArrayIndexOutOfBoundsException");
        RecordMatch x = new RecordMatch();
        x.record(0);
        try {
            x.score(1, 1, 0);
            CHECKS.due("score throws", 0, 1);
        } catch (RuntimeException e) {
            CHECKS.due("score throws " + e.getClass(), e.getClass() == ArithmeticException.class ? 1 : 0, 1);
        }
        try {
            x.index(1, 0);
            CHECKS.due("index throws", 0, 1);
        } catch (RuntimeException e) {
            CHECKS.due("index throws " + e.getClass(),
                    e.getClass() == ArrayIndexOutOfBoundsException.class ? 1 : 0, 1);
        }
    }
}
