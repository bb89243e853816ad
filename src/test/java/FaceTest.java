import java.lang.reflect.Constructor;
import java.lang.reflect.Executable;
import java.lang.reflect.Field;
import java.lang.reflect.Method;
import java.lang.reflect.Modifier;
import java.util.ArrayList;
import java.util.Arrays;
import java.util.Collections;
import java.util.List;

/** The public face, and what LANGUAGE.md says of members that can be seen by reflection. */
final class FaceTest extends Due {
    private static final String[] FACE = {
        "TapirGroup()",
        "boolean finish(int, int) IllegalArgumentException IllegalStateException UnsupportedOperationException",
        "boolean power(int, boolean) IllegalArgumentException",
        "int at(int, int, int)",
        "int begin(int) IllegalArgumentException IllegalStateException",
        "int change() IllegalStateException",
        "int client(int, int)",
        "int confirm(int, int) IllegalArgumentException IllegalStateException UnsupportedOperationException",
        "int decide(int) IllegalArgumentException IllegalStateException",
        "int prepare(int, int) IllegalArgumentException IllegalStateException UnsupportedOperationException",
        "int read(int, int, int) IllegalArgumentException IllegalStateException UnsupportedOperationException"
            + " IndexOutOfBoundsException",
        "int record(int, int)",
        "int state(int)",
        "void end(int) IllegalArgumentException IllegalStateException",
        "void propose(int, int) IllegalArgumentException IllegalStateException",
        "void write(int, int, int) IllegalArgumentException IllegalStateException IndexOutOfBoundsException",
    };

    public static void main(String[] args) {
        due("the class is public and final", true, Modifier.isPublic(TapirGroup.class.getModifiers())
            && Modifier.isFinal(TapirGroup.class.getModifiers()));
        due("the face", String.join("\n", FACE), String.join("\n", visibleMembers()));
        noPrivateMethodBearsAPublicName();
        staticFieldsAreFinal(TapirGroup.class);
        for (Class<?> inside : TapirGroup.class.getDeclaredClasses()) {
            due(inside + " is static", true, Modifier.isStatic(inside.getModifiers()));
            due(inside + " is not public", false, Modifier.isPublic(inside.getModifiers()));
            staticFieldsAreFinal(inside);
        }
        close();
    }

    private static List<String> visibleMembers() {
        List<String> members = new ArrayList<>();
        for (Constructor<?> made : TapirGroup.class.getDeclaredConstructors()) {
            if (!Modifier.isPrivate(made.getModifiers())) {
                members.add("TapirGroup" + signature(made));
            }
        }
        for (Method method : TapirGroup.class.getDeclaredMethods()) {
            if (!Modifier.isPrivate(method.getModifiers())) {
                members.add(method.getReturnType() + " " + method.getName() + signature(method));
            }
        }
        for (Field field : TapirGroup.class.getDeclaredFields()) {
            if (!Modifier.isPrivate(field.getModifiers())) {
                members.add(field.toString());
            }
        }
        Collections.sort(members);
        return members;
    }

    private static String signature(Executable call) {
        String parameters = Arrays.toString(call.getParameterTypes());
        StringBuilder text = new StringBuilder("(");
        text.append(parameters, 1, parameters.length() - 1).append(')');
        for (Class<?> thrown : call.getExceptionTypes()) {
            text.append(' ').append(thrown.getSimpleName());
        }
        return text.toString();
    }

    private static void noPrivateMethodBearsAPublicName() {
        for (Method method : TapirGroup.class.getDeclaredMethods()) {
            for (Method other : TapirGroup.class.getDeclaredMethods()) {
                due(method + " has a name of its own", false,
                    Modifier.isPrivate(method.getModifiers()) && Modifier.isPublic(other.getModifiers())
                        && method.getName().equals(other.getName()));
            }
        }
    }

    private static void staticFieldsAreFinal(Class<?> owner) {
        for (Field field : owner.getDeclaredFields()) {
            due(field + " is final if it is static", true, !Modifier.isStatic(field.getModifiers())
                || Modifier.isFinal(field.getModifiers()));
        }
    }
}
