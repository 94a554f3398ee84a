import java.lang.reflect.Executable;
import java.lang.reflect.Field;
import java.lang.reflect.Method;
import java.lang.reflect.Modifier;
import java.util.HashSet;
import java.util.Set;
import java.util.TreeSet;

/** The class has the document's public face and nothing more that others could see. */
public final class FaceTest {
    private static final String[] DUE = {
        "int street(int) index room",
        "int sign(int long int) argument index room",
        "int alias(int) argument state room",
        "int range(int int int int) argument index room",
        "int line(int int int int int) argument index",
        "void close(int boolean) argument",
        "int landmark(int int long int) argument index state room",
        "void meet(int int int int) argument index state room",
        "int corner(int int) argument",
        "int post(int int) argument index",
        "int near(int int) index",
        "int word(long int) index room",
        "int find(int) index state",
        "int place(int int) argument index",
        "int twice()",
    };

    public static void main(String[] args) {
        Check.sentence("The public face", "public final class AddressWords");
        Class<?> face = AddressWords.class;
        Check.same("the class", "public final", Modifier.toString(face.getModifiers()));
        Check.same("constructors", "1", String.valueOf(face.getDeclaredConstructors().length));
        Check.same("the constructor", "public AddressWords()", face.getDeclaredConstructors()[0].toString());
        Check.same("methods", new TreeSet<>(Set.of(DUE)).toString(), visibleMethods(face).toString());
        for (Field field : face.getDeclaredFields()) {
            Check.same("the field " + field.getName() + " is private", "true", isPrivate(field.getModifiers()));
        }
        for (Class<?> inside : face.getDeclaredClasses()) {
            Check.same(inside + " is static", "true", String.valueOf(Modifier.isStatic(inside.getModifiers())));
        }
        noPrivateMethodHasAPublicName(face);
        Check.end();
    }

    private static String isPrivate(int modifiers) {
        return String.valueOf(Modifier.isPrivate(modifiers));
    }

    private static Set<String> visibleMethods(Class<?> face) {
        Set<String> found = new TreeSet<>();
        for (Method method : face.getDeclaredMethods()) {
            if (!Modifier.isPrivate(method.getModifiers())) {
                found.add(described(method));
            }
        }
        return found;
    }

    private static String described(Method method) {
        StringBuilder text = new StringBuilder();
        text.append(method.getReturnType()).append(' ').append(method.getName()).append('(');
        String between = "";
        for (Class<?> type : method.getParameterTypes()) {
            text.append(between).append(type);
            between = " ";
        }
        return text.append(')').append(refusals(method)).toString();
    }

    private static String refusals(Executable method) {
        StringBuilder text = new StringBuilder();
        for (Class<?> thrown : method.getExceptionTypes()) {
            text.append(thrown == Check.ARGUMENT ? " argument" : thrown == Check.INDEX ? " index"
                    : thrown == Check.STATE ? " state" : thrown == Check.ROOM ? " room" : " " + thrown);
        }
        return text.toString();
    }

    private static void noPrivateMethodHasAPublicName(Class<?> face) {
        Set<String> open = new HashSet<>();
        for (Method method : face.getMethods()) {
            open.add(method.getName());
        }
        for (Method method : face.getDeclaredMethods()) {
            if (Modifier.isPrivate(method.getModifiers())) {
                Check.same("the name " + method.getName(), "false", String.valueOf(open.contains(method.getName())));
            }
        }
    }
}
