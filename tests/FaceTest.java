import java.lang.reflect.Constructor;
import java.lang.reflect.Field;
import java.lang.reflect.Method;
import java.lang.reflect.Modifier;
import java.util.Arrays;
import java.util.List;
import java.util.TreeSet;

/** The public face is that of the document and nothing more; LANGUAGE.md, rules 1 and 5. */
public final class FaceTest {
    private static final String[] FACE = {
        "int addTable(char, int) IllegalArgumentException IllegalStateException",
        "int way(int, int, int) IndexOutOfBoundsException NoSuchElementException",
        "int addGuest(int, int, int, int, char) IllegalArgumentException IllegalStateException",
        "char reply(int, boolean) IndexOutOfBoundsException",
        "char stateOf(int) IndexOutOfBoundsException",
        "int coming()",
        "int waiting(int) NoSuchElementException",
        "int sit(int, int, int) IndexOutOfBoundsException NoSuchElementException UnsupportedOperationException",
        "int rise(int) IndexOutOfBoundsException UnsupportedOperationException",
        "int seatOf(int) IndexOutOfBoundsException NoSuchElementException",
        "int at(int, int) IndexOutOfBoundsException NoSuchElementException",
        "boolean swap(int, int) IndexOutOfBoundsException UnsupportedOperationException",
        "int ink(int) IndexOutOfBoundsException UnsupportedOperationException",
        "int tear(int) IndexOutOfBoundsException UnsupportedOperationException",
        "int addCondition(char, int, int, int) IndexOutOfBoundsException IllegalArgumentException"
            + " IllegalStateException",
        "boolean drop(int, boolean) IndexOutOfBoundsException",
        "boolean isBroken(int) IndexOutOfBoundsException",
        "int broken()",
        "int loss()",
        "int bestBroken(int) IndexOutOfBoundsException UnsupportedOperationException",
        "int bestLoss(int) IndexOutOfBoundsException UnsupportedOperationException",
        "int bestAt(int, int) IndexOutOfBoundsException NoSuchElementException UnsupportedOperationException",
        "int arrange(int) IndexOutOfBoundsException UnsupportedOperationException",
        "int answers(int) IndexOutOfBoundsException UnsupportedOperationException",
        "boolean isNeeded(int, int) IndexOutOfBoundsException UnsupportedOperationException",
        "int quarrel(int) IndexOutOfBoundsException UnsupportedOperationException",
        "int quarrelAt(int, int) IndexOutOfBoundsException UnsupportedOperationException NoSuchElementException",
        "int moves(int) IndexOutOfBoundsException UnsupportedOperationException NoSuchElementException",
        "int faults(int, int) IndexOutOfBoundsException IllegalArgumentException",
        "int first(int, int) IllegalArgumentException NoSuchElementException",
        "int dishes(int) IllegalArgumentException",
        "int lock()",
        "int without()",
        "int keepEvening() IllegalStateException",
        "int met(int, int) IndexOutOfBoundsException IllegalArgumentException",
        "int unmet()",
        "long checksum()",
        "float seatedShare() ArithmeticException",
        "double meanRank(int) IndexOutOfBoundsException ArithmeticException",
        "boolean isSound()",
    };

    private static final Check check = new Check("FaceTest");

    public static void main(String[] args) {
        TreeSet<String> wanted = new TreeSet<>(List.of(FACE));
        TreeSet<String> found = new TreeSet<>();
        TreeSet<String> publicNames = new TreeSet<>();
        for (Method method : Placecard.class.getDeclaredMethods()) {
            if (!Modifier.isPrivate(method.getModifiers())) {
                check.due(method + " is public and of the object", method.getModifiers(), Modifier.PUBLIC);
                found.add(written(method));
                publicNames.add(method.getName());
            }
        }
        check.due("the face", String.join("\n", found), String.join("\n", wanted));
        check.due("the class's modifiers", Placecard.class.getModifiers(), Modifier.PUBLIC | Modifier.FINAL);
        Constructor<?>[] constructors = Placecard.class.getDeclaredConstructors();
        check.due("the constructors", Arrays.toString(constructors), "[public Placecard()]");
        fields(Placecard.class);
        privateNames(Placecard.class, publicNames);
        for (Class<?> inside : Placecard.class.getDeclaredClasses()) {
            int modifiers = inside.getModifiers();
            check.due(inside + " is static", Modifier.isStatic(modifiers), true);
            check.due(inside + " is hidden", Modifier.isPublic(modifiers) || Modifier.isProtected(modifiers), false);
            privateNames(inside, publicNames);
        }
        check.end();
    }

    private static String written(Method method) {
        StringBuilder text = new StringBuilder();
        text.append(method.getReturnType().getSimpleName()).append(' ').append(method.getName()).append('(');
        for (Class<?> type : method.getParameterTypes()) {
            text.append(text.charAt(text.length() - 1) == '(' ? "" : ", ").append(type.getSimpleName());
        }
        text.append(')');
        for (Class<?> type : method.getExceptionTypes()) {
            text.append(' ').append(type.getSimpleName());
        }
        return text.toString();
    }

    private static void fields(Class<?> type) {
        for (Field field : type.getDeclaredFields()) {
            check.due(field + " is private", Modifier.isPrivate(field.getModifiers()), true);
            if (Modifier.isStatic(field.getModifiers())) {
                check.due(field + " is final", Modifier.isFinal(field.getModifiers()), true);
                check.due(field + " is a plain constant", field.getType().isPrimitive(), true);
            }
        }
    }

    private static void privateNames(Class<?> type, TreeSet<String> publicNames) {
        for (Method method : type.getDeclaredMethods()) {
            boolean isOfFace = type == Placecard.class && Modifier.isPublic(method.getModifiers());
            check.due(method + " bears a public name", !isOfFace && publicNames.contains(method.getName()), false);
        }
    }
}
