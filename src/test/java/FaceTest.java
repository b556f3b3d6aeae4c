import java.lang.reflect.Constructor;
import java.lang.reflect.Field;
import java.lang.reflect.Method;
import java.lang.reflect.Modifier;
import java.util.ArrayList;
import java.util.Arrays;
import java.util.Collections;
import java.util.List;

/** The public face: its constants, its constructor and its methods, and nothing beside them. */
public final class FaceTest {
    private static final String[] METHODS = {
        "boolean hold(int) IndexOutOfBoundsException",
        "boolean isApproved(int,int,boolean) IndexOutOfBoundsException,IllegalArgumentException",
        "char label(int,int) IndexOutOfBoundsException",
        "int archive(int) IndexOutOfBoundsException,IllegalStateException",
        "int budget(int,int) IndexOutOfBoundsException,IllegalArgumentException,IllegalStateException",
        "int done(int,int) IndexOutOfBoundsException,IllegalStateException",
        "int edit(int,int) IndexOutOfBoundsException,IllegalStateException",
        "int ends(int,int) IndexOutOfBoundsException,IllegalArgumentException",
        "int left(int) IndexOutOfBoundsException",
        "int mark(int,int,int) IndexOutOfBoundsException,IllegalArgumentException,IllegalStateException",
        "int messageOf(int,int) IndexOutOfBoundsException,IllegalArgumentException",
        "int next(int,int) IndexOutOfBoundsException",
        "int pass(int) IllegalArgumentException",
        "int post(int,int,int) IndexOutOfBoundsException,IllegalStateException",
        "int role(int,int) IndexOutOfBoundsException,IllegalArgumentException",
        "int spend(int,int,int) IndexOutOfBoundsException,IllegalArgumentException,IllegalStateException",
        "int spendOf(int,int) IndexOutOfBoundsException,IllegalArgumentException",
        "int task(int,int,int,int) IndexOutOfBoundsException,IllegalArgumentException,IllegalStateException",
        "int taskOf(int) IndexOutOfBoundsException",
        "int user(int) IllegalArgumentException,IllegalStateException",
    };
    private static final String[] CONSTANTS = {
        "CHIEF=3", "DONE=1", "DROPPED=2", "GUEST=0", "LEAD=2", "MEMBER=1", "NO=1", "NONE=-1", "OPEN=0",
        "STANDS=0", "WENT_BACK=1", "YES=0",
    };

    private FaceTest() {
    }

    public static void main(String[] args) throws IllegalAccessException {
        Check.due("public final", true, () -> {
            int modifiers = MarkChat.class.getModifiers();
            return Modifier.isPublic(modifiers) && Modifier.isFinal(modifiers);
        });
        Check.report("methods", Arrays.asList(METHODS).toString(), methods().toString());
        Check.report("constants", Arrays.asList(CONSTANTS).toString(), constants().toString());
        Check.report("constructors", "[public MarkChat()]", constructors().toString());
        noPrivateMethodBearsAPublicName();
        Check.end();
    }

    private static List<String> methods() {
        List<String> found = new ArrayList<>();
        for (Method method : MarkChat.class.getDeclaredMethods()) {
            if (!Modifier.isPrivate(method.getModifiers()) && !method.isSynthetic()) {
                found.add(method.getReturnType().getSimpleName() + " " + method.getName() + "("
                        + names(method.getParameterTypes()) + ") " + names(method.getExceptionTypes()));
            }
        }
        Collections.sort(found);
        return found;
    }

    private static String names(Class<?>[] types) {
        List<String> names = new ArrayList<>();
        for (Class<?> type : types) {
            names.add(type.getSimpleName());
        }
        return String.join(",", names);
    }

    private static List<String> constants() throws IllegalAccessException {
        List<String> found = new ArrayList<>();
        for (Field field : MarkChat.class.getDeclaredFields()) {
            int modifiers = field.getModifiers();
            if (!Modifier.isPrivate(modifiers)) {
                boolean isConstant = Modifier.isPublic(modifiers) && Modifier.isStatic(modifiers)
                        && Modifier.isFinal(modifiers) && field.getType() == int.class;
                found.add(field.getName() + "=" + (isConstant ? field.get(null) : "no constant"));
            }
        }
        Collections.sort(found);
        return found;
    }

    private static List<String> constructors() {
        List<String> found = new ArrayList<>();
        for (Constructor<?> constructor : MarkChat.class.getDeclaredConstructors()) {
            found.add(constructor.toString());
        }
        return found;
    }

    private static void noPrivateMethodBearsAPublicName() {
        List<String> publicNames = new ArrayList<>();
        for (Method method : MarkChat.class.getDeclaredMethods()) {
            if (Modifier.isPublic(method.getModifiers())) {
                publicNames.add(method.getName());
            }
        }
        for (Method method : MarkChat.class.getDeclaredMethods()) {
            if (!Modifier.isPublic(method.getModifiers())) {
                Check.report("a public name for the private " + method.getName(), "false",
                        String.valueOf(publicNames.contains(method.getName())));
            }
        }
    }
}
