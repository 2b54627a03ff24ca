import java.lang.reflect.Constructor;
import java.lang.reflect.Field;
import java.lang.reflect.Method;
import java.lang.reflect.Modifier;
import java.util.Arrays;
import java.util.List;
import java.util.Set;
import java.util.TreeSet;
import java.util.stream.Collectors;

/** The public face, whole and with nothing beside it. */
public final class FaceTest {
    private static final Set<String> FACE = new TreeSet<>(List.of(
            "void edit(int, int, int, int)", "void erase(int, int)", "int siblings(int, int)",
            "int counter(int, int, int, int)", "int byteOf(int, int, int, int)",
            "int visit(int, int, int)", "int cut(int, int, int, int)", "int lose(int)",
            "void copy(int, int)", "int known(int, int, int, int)", "int marks(int)",
            "int bytes(int)", "boolean same(int, int)", "int room(int)", "int item(int, int, int)",
            "int leftOut()"));
    private static final Checks CHECKS = new Checks();

    public static void main(String[] args) {
        int kind = FolderRounds.class.getModifiers();
        CHECKS.due("the class is public and final", Modifier.isPublic(kind) && Modifier.isFinal(kind), true);
        methodsAreTheFace();
        fieldsArePrivate();
        Constructor<?>[] constructors = FolderRounds.class.getDeclaredConstructors();
        CHECKS.due("constructors", constructors.length, 1);
        CHECKS.due("the constructor is public and takes nothing",
                Modifier.isPublic(constructors[0].getModifiers()) && constructors[0].getParameterCount() == 0, true);
        CHECKS.finish();
    }

    private static void methodsAreTheFace() {
        Set<String> found = new TreeSet<>();
        Set<String> privateNames = new TreeSet<>();
        Set<String> publicNames = new TreeSet<>();
        for (Method method : FolderRounds.class.getDeclaredMethods()) {
            if (Modifier.isPrivate(method.getModifiers())) {
                privateNames.add(method.getName());
            } else {
                found.add(signature(method));
                publicNames.add(method.getName());
                CHECKS.due(method.getName() + " is public and of an object",
                        Modifier.isPublic(method.getModifiers()) && !Modifier.isStatic(method.getModifiers()), true);
            }
        }
        if (!found.equals(FACE)) {
            System.out.println("found " + found + ", due is " + FACE);
        }
        CHECKS.due("the methods are the face", found.equals(FACE), true);
        privateNames.retainAll(publicNames);
        CHECKS.due("private methods with the name of a public one", privateNames.size(), 0);
    }

    private static String signature(Method method) {
        String parameters = Arrays.stream(method.getParameterTypes())
                .map(Class::getSimpleName).collect(Collectors.joining(", "));
        return method.getReturnType().getSimpleName() + " " + method.getName() + "(" + parameters + ")";
    }

    private static void fieldsArePrivate() {
        for (Field field : FolderRounds.class.getDeclaredFields()) {
            int kind = field.getModifiers();
            CHECKS.due(field.getName() + " is private", Modifier.isPrivate(kind), true);
            CHECKS.due(field.getName() + ", if static, is final", !Modifier.isStatic(kind) || Modifier.isFinal(kind), true);
        }
    }
}
