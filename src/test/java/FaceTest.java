import java.lang.reflect.Constructor;
import java.lang.reflect.Field;
import java.lang.reflect.Method;
import java.lang.reflect.Modifier;
import java.util.ArrayList;
import java.util.List;
import java.util.TreeSet;

/** The class has the document's face and shows nothing beside it. */
final class FaceTest {
    private static final String[] FACE = {
        "boolean ask(int, int)", "boolean put(int, int, int)", "boolean set(int, int)",
        "int about(int)", "int byteAt(int, int)", "int channel(int, int)", "int frame(int)",
        "int get(int)", "int pixel(int, int, int)"
    };

    public static void main(String[] args) throws ReflectiveOperationException {
        Check check = new Check();
        Class<?> face = StageMachine.class;
        check.due("public and final", face.getModifiers(), Modifier.PUBLIC | Modifier.FINAL);
        methods(check, face);
        constructors(check, face);
        fields(check, face);
        nestedClasses(check, face);
        check.finish();
    }

    private static void methods(Check check, Class<?> face) {
        TreeSet<String> shown = new TreeSet<>();
        List<String> hidden = new ArrayList<>();
        for (Method method : face.getDeclaredMethods()) {
            if (Modifier.isPrivate(method.getModifiers())) {
                hidden.add(method.getName());
            } else {
                shown.add(told(method));
                check.due(method + " is public alone", method.getModifiers(), Modifier.PUBLIC);
            }
        }
        check.due("the face is " + shown, shown.equals(new TreeSet<>(List.of(FACE))), true);
        for (String name : hidden) {
            check.due("a private method bears a public name: " + name, isPublicName(name), false);
        }
    }

    private static String told(Method method) {
        StringBuilder told = new StringBuilder();
        told.append(method.getReturnType()).append(' ').append(method.getName()).append('(');
        String between = "";
        for (Class<?> type : method.getParameterTypes()) {
            told.append(between).append(type);
            between = ", ";
        }
        return told.append(')').toString();
    }

    private static boolean isPublicName(String name) {
        for (String method : FACE) {
            if (method.contains(" " + name + "(")) {
                return true;
            }
        }
        return false;
    }

    private static void constructors(Check check, Class<?> face) {
        Constructor<?>[] all = face.getDeclaredConstructors();
        check.due("constructors", all.length, 1);
        check.due("parameters", all[0].getParameterCount(), 0);
        check.due("public", Modifier.isPublic(all[0].getModifiers()), true);
    }

    private static void fields(Check check, Class<?> face) throws ReflectiveOperationException {
        for (Field field : face.getDeclaredFields()) {
            boolean constant = field.getName().equals("NONE");
            check.due(field + " is public", Modifier.isPublic(field.getModifiers()), constant);
            check.due(field + " is private", Modifier.isPrivate(field.getModifiers()), !constant);
            if (Modifier.isStatic(field.getModifiers())) {
                check.due(field + " is final", Modifier.isFinal(field.getModifiers()), true);
            }
        }
        check.due("NONE", face.getDeclaredField("NONE").getInt(null), -1);
    }

    private static void nestedClasses(Check check, Class<?> face) {
        check.due("at most twelve classes", face.getDeclaredClasses().length < 12, true);
        for (Class<?> nested : face.getDeclaredClasses()) {
            int modifiers = nested.getModifiers();
            check.due(nested + " is hidden", Modifier.isPublic(modifiers) || Modifier.isProtected(modifiers), false);
            check.due(nested + " is static", Modifier.isStatic(modifiers), true);
            for (Method method : nested.getDeclaredMethods()) {
                check.due(method + " bears a public name", isPublicName(method.getName()), false);
            }
            for (Field field : nested.getDeclaredFields()) {
                int of = field.getModifiers();
                check.due(field + " is no static state", Modifier.isStatic(of) && !Modifier.isFinal(of), false);
            }
        }
    }
}
