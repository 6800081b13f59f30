import java.lang.reflect.Constructor;
import java.lang.reflect.Executable;
import java.lang.reflect.Field;
import java.lang.reflect.Method;
import java.lang.reflect.Modifier;
import java.util.ArrayList;
import java.util.List;

/** The public face, as the document writes it, and no other member that is not private. */
public final class FaceTest {
    private static final String ARGUMENT = " throws IllegalArgumentException";
    private static final String STATE = " throws IllegalStateException";
    private static final String BOTH = " throws IllegalArgumentException, IllegalStateException";

    private static final List<String> FACE = List.of(
            "boolean done(int)" + ARGUMENT,
            "int await(int)" + ARGUMENT,
            "int count(int)" + ARGUMENT,
            "int flush()" + STATE,
            "int left()",
            "int load(int)" + BOTH,
            "int memory(int)" + ARGUMENT,
            "int request(int)",
            "int store(int, int)" + BOTH,
            "int targets(int)" + ARGUMENT,
            "int tick(int)" + ARGUMENT,
            "int value(int)" + BOTH,
            "int way(int, int)" + ARGUMENT,
            "void ahead(boolean)",
            "void delay(int)" + ARGUMENT);

    public static void main(String[] args) {
        Check check = new Check();
        Class<MissRegisters> face = MissRegisters.class;
        check.same("modifiers", "public final", Modifier.toString(face.getModifiers()));
        check.same("methods", FACE.toString(), openMethods(face).toString());
        check.same("private methods with a name of the face", "[]", hiddenNamesakes(face).toString());
        check.same("constructors", "1", Integer.toString(face.getDeclaredConstructors().length));
        for (Constructor<?> constructor : face.getDeclaredConstructors()) {
            check.same("constructor", "public ()",
                    Modifier.toString(constructor.getModifiers()) + " " + parameters(constructor));
        }
        for (Field field : face.getDeclaredFields()) {
            check.due(field.getName() + " is private", true, Modifier.isPrivate(field.getModifiers()));
            check.due(field.getName() + " is final if it is static", true,
                    Modifier.isFinal(field.getModifiers()) || !Modifier.isStatic(field.getModifiers()));
        }
        for (Class<?> inside : face.getDeclaredClasses()) {
            check.due(inside.getName() + " is static", true, Modifier.isStatic(inside.getModifiers()));
        }
        check.end();
    }

    private static List<String> openMethods(Class<?> face) {
        List<String> texts = new ArrayList<>();
        for (Method method : face.getDeclaredMethods()) {
            if (!Modifier.isPrivate(method.getModifiers())) {
                String heading = method.getReturnType().getSimpleName() + " " + method.getName() + parameters(method);
                boolean plain = Modifier.toString(method.getModifiers()).equals("public");
                texts.add((plain ? "" : "not plainly public: ") + heading + thrown(method));
            }
        }
        texts.sort(null);
        return texts;
    }

    private static List<String> hiddenNamesakes(Class<?> face) {
        List<String> names = new ArrayList<>();
        for (Method hidden : face.getDeclaredMethods()) {
            for (Method open : face.getMethods()) {
                if (Modifier.isPrivate(hidden.getModifiers()) && hidden.getName().equals(open.getName())) {
                    names.add(hidden.getName());
                }
            }
        }
        return names;
    }

    private static String parameters(Executable of) {
        return "(" + names(of.getParameterTypes()) + ")";
    }

    private static String thrown(Executable of) {
        return of.getExceptionTypes().length == 0 ? "" : " throws " + names(of.getExceptionTypes());
    }

    private static String names(Class<?>[] types) {
        List<String> names = new ArrayList<>();
        for (Class<?> type : types) {
            names.add(type.getSimpleName());
        }
        return String.join(", ", names);
    }
}
