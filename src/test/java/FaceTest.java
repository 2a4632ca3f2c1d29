import java.lang.reflect.Constructor;
import java.lang.reflect.Field;
import java.lang.reflect.Method;
import java.lang.reflect.Modifier;
import java.util.Set;
import java.util.TreeSet;

/** The face is the document's and nothing more (rule 1 of LANGUAGE.md), and an object has no state of its class's. */
public final class FaceTest {
    private static final String[] FACE = {
        "void open(int) INDEX",
        "int expire(int) INDEX STATE",
        "int deliver(int) INDEX ELEMENT",
        "int lose(int) INDEX ELEMENT",
        "boolean hand(int,int,int,int,int) INDEX",
        "void call(int,int) INDEX STATE",
        "void accept(int,int) INDEX STATE",
        "void clear(int,int) INDEX STATE",
        "void reset(int,int) INDEX STATE",
        "boolean send(int,int,int,boolean) INDEX ARGUMENT STATE",
        "int receive(int,int) INDEX STATE ELEMENT",
        "int link(int,int) INDEX",
        "int channel(int,int,int) INDEX",
        "int frame(int,int,int) INDEX",
        "int peek(int,int) INDEX",
    };

    public static void main(String[] args) {
        Class<?> type = ChannelledLink.class;
        Checks.due("public and final", Modifier.isPublic(type.getModifiers()) && Modifier.isFinal(type.getModifiers()), true);
        Set<String> open = new TreeSet<>();
        Set<String> names = new TreeSet<>();
        for (Method method : type.getDeclaredMethods()) {
            if (Modifier.isPublic(method.getModifiers())) {
                open.add(shape(method));
                names.add(method.getName());
            }
        }
        Checks.due("the face", open, new TreeSet<>(Set.of(FACE)));
        Checks.due("constructors", type.getDeclaredConstructors().length, 1);
        for (Constructor<?> constructor : type.getDeclaredConstructors()) {
            Checks.due("constructor", constructor.toString(), "public ChannelledLink()");
        }
        othersArePrivate(type, names);
        for (Class<?> inner : type.getDeclaredClasses()) {
            Checks.due(inner + " is static and not public", Modifier.isStatic(inner.getModifiers())
                    && !Modifier.isPublic(inner.getModifiers()) && !Modifier.isProtected(inner.getModifiers()), true);
            namesAreOthers(inner, names);
            staticFieldsAreFinal(inner);
        }
        staticFieldsAreFinal(type);
        twoObjectsAreApart();
        Checks.finish();
    }

    private static String shape(Method method) {
        StringBuilder text = new StringBuilder(method.getReturnType() + " " + method.getName() + "(");
        for (Class<?> parameter : method.getParameterTypes()) {
            text.append(text.charAt(text.length() - 1) == '(' ? "" : ",").append(parameter);
        }
        text.append(')');
        for (Class<?> exception : method.getExceptionTypes()) {
            text.append(' ').append(shortName(exception));
        }
        return text.toString();
    }

    private static String shortName(Class<?> exception) {
        switch (exception.getName()) {
            case "java.lang.IndexOutOfBoundsException": return "INDEX";
            case "java.lang.IllegalArgumentException": return "ARGUMENT";
            case "java.lang.IllegalStateException": return "STATE";
            case "java.util.NoSuchElementException": return "ELEMENT";
            default: return exception.getName();
        }
    }

    private static void othersArePrivate(Class<?> type, Set<String> names) {
        for (Method method : type.getDeclaredMethods()) {
            if (!Modifier.isPublic(method.getModifiers()) && !method.isSynthetic()) {
                Checks.due(method + " is private", Modifier.isPrivate(method.getModifiers()), true);
                Checks.due(method + " has a name of its own", names.contains(method.getName()), false);
            }
        }
        for (Field field : type.getDeclaredFields()) {
            Checks.due(field + " is private", Modifier.isPrivate(field.getModifiers()), true);
        }
    }

    private static void namesAreOthers(Class<?> inner, Set<String> names) {
        for (Method method : inner.getDeclaredMethods()) {
            Checks.due(method + " has a name of its own", names.contains(method.getName()), false);
        }
    }

    private static void staticFieldsAreFinal(Class<?> type) {
        for (Field field : type.getDeclaredFields()) {
            boolean changes = Modifier.isStatic(field.getModifiers()) && !Modifier.isFinal(field.getModifiers());
            Checks.due(field + " is static and changes", changes, false);
        }
    }

    private static void twoObjectsAreApart() {
        ChannelledLink x = Checks.opened(0);
        ChannelledLink y = new ChannelledLink();
        String fresh = Checks.state(y);
        x.send(0, 0, 1, true);
        Checks.due("another object is as it was", Checks.state(y), fresh);
    }
}
