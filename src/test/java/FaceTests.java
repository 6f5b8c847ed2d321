import java.lang.reflect.Constructor;
import java.lang.reflect.Field;
import java.lang.reflect.Method;
import java.lang.reflect.Modifier;
import java.util.Arrays;
import java.util.TreeSet;

/** The class has the face of the document and nothing else that can be seen from outside. */
public final class FaceTests {
    private static final String[] METHODS = {
        "append(int) IllegalArgumentException IllegalStateException",
        "clearText()",
        "errorPosition()",
        "load() IllegalStateException",
        "about(int) IllegalArgumentException",
        "work(int,int) IndexOutOfBoundsException IllegalArgumentException",
        "letter(int,int,int) IndexOutOfBoundsException IllegalArgumentException",
        "key(int,int) IndexOutOfBoundsException IllegalArgumentException",
        "at(int) IllegalArgumentException",
        "meaning()",
        "printedMeaning()",
        "printed(int) IllegalArgumentException",
        "add() IllegalStateException",
        "change(int) IndexOutOfBoundsException IllegalStateException",
        "setYear(int,int) IndexOutOfBoundsException IllegalArgumentException",
        "remove(int) IndexOutOfBoundsException",
        "setStyle(int) IllegalArgumentException",
        "setOrder(int) IllegalArgumentException",
        "print()",
        "undo() IllegalStateException",
        "ifRemoved(int) IndexOutOfBoundsException",
        "freeYear(int) IndexOutOfBoundsException",
        "lettersWith(int) IllegalArgumentException",
        "bestStyle()",
        "weightiest()",
        "runScript(int,long) IllegalArgumentException",
        "simulate(long,int) IllegalArgumentException",
        "save(int) IndexOutOfBoundsException",
        "restore(int) IndexOutOfBoundsException IllegalStateException",
    };

    public static void main(String[] args) {
        Checks checks = new Checks();
        Class<?> face = CitationKeys.class;
        checks.part("face");
        checks.due("the class's modifiers", Modifier.toString(face.getModifiers()), "public final");
        checks.due("NONE", CitationKeys.NONE, -9);
        checks.due("GONE", CitationKeys.GONE, -2);
        checks.due("methods", visibleMethods(face), new TreeSet<>(Arrays.asList(METHODS)));
        checks.due("fields", visibleFields(face), new TreeSet<>(Arrays.asList("NONE", "GONE")));
        Constructor<?>[] constructors = face.getDeclaredConstructors();
        checks.due("constructors", constructors.length, 1);
        checks.due("constructor", constructors[0].toString(), "public CitationKeys()");
        namesInside(checks, face);
        checks.end();
    }

    private static TreeSet<String> visibleMethods(Class<?> face) {
        TreeSet<String> found = new TreeSet<>();
        for (Method method : face.getDeclaredMethods()) {
            if (!Modifier.isPrivate(method.getModifiers())) {
                found.add(told(method));
            }
        }
        return found;
    }

    private static String told(Method method) {
        StringBuilder told = new StringBuilder();
        boolean plain = method.getModifiers() == Modifier.PUBLIC && method.getReturnType() == int.class;
        told.append(plain ? "" : method + " ").append(method.getName()).append('(');
        Class<?>[] parameters = method.getParameterTypes();
        for (int p = 0; p < parameters.length; p++) {
            told.append(p == 0 ? "" : ",").append(parameters[p].getName());
        }
        told.append(')');
        for (Class<?> exception : method.getExceptionTypes()) {
            told.append(' ').append(exception.getSimpleName());
        }
        return told.toString();
    }

    private static TreeSet<String> visibleFields(Class<?> face) {
        TreeSet<String> found = new TreeSet<>();
        for (Field field : face.getDeclaredFields()) {
            if (!Modifier.isPrivate(field.getModifiers())) {
                found.add(field.getName());
            }
            if (Modifier.isStatic(field.getModifiers())) {
                boolean constant = Modifier.isFinal(field.getModifiers()) && field.getType().isPrimitive();
                found.addAll(constant ? new TreeSet<>() : new TreeSet<>(Arrays.asList("static " + field)));
            }
        }
        return found;
    }

    /** The classes inside are private and static, and none of their methods bears a name of the face. */
    private static void namesInside(Checks checks, Class<?> face) {
        TreeSet<String> names = new TreeSet<>();
        for (String method : METHODS) {
            names.add(method.substring(0, method.indexOf('(')));
        }
        for (Method method : face.getDeclaredMethods()) {
            if (Modifier.isPrivate(method.getModifiers())) {
                checks.due("a private " + method.getName(), names.contains(method.getName()), false);
            }
        }
        for (Class<?> inside : face.getDeclaredClasses()) {
            checks.due("class " + inside, Modifier.toString(inside.getModifiers()), "private static final");
            for (Method method : inside.getDeclaredMethods()) {
                checks.due(inside + " has a " + method.getName(), names.contains(method.getName()), false);
            }
        }
    }
}
