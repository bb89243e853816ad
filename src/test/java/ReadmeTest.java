import java.io.IOException;
import java.lang.reflect.InvocationTargetException;
import java.lang.reflect.Method;
import java.nio.file.Files;
import java.nio.file.Path;
import java.util.ArrayList;
import java.util.List;
import java.util.regex.Matcher;
import java.util.regex.Pattern;

/** Each call in README.md's examples answers what the remark beside it begins with. */
final class ReadmeTest extends Due {
    private static final Pattern CALL = Pattern.compile("g\\.(\\w+)\\((.*)\\);(?:\\s*// (.*))?");
    private static final String NEW_OBJECT = "TapirGroup g = new TapirGroup();";

    private static TapirGroup group;

    public static void main(String[] args) throws IOException {
        boolean inExample = false;
        int calls = 0;
        for (String line : Files.readAllLines(Path.of("README.md"))) {
            if (line.startsWith("```")) {
                inExample = line.equals("```java");
            } else if (inExample && line.equals(NEW_OBJECT)) {
                group = new TapirGroup();
            } else if (inExample) {
                runLine(line);
                calls++;
            }
        }
        due("there are examples", true, calls > 0);
        close();
    }

    private static void runLine(String line) {
        Matcher parts = CALL.matcher(line);
        due(line + " is a call", true, parts.matches());
        if (!parts.matches()) {
            return;
        }
        Method method = methodCalled(parts.group(1));
        due(line + " is in the face", true, method != null);
        if (method == null) {
            return;
        }
        String got = answer(method, parts.group(2));
        if (!got.equals("null")) {
            due(line, remarked(parts.group(3)), got);
        }
    }

    private static Method methodCalled(String name) {
        for (Method method : TapirGroup.class.getMethods()) {
            if (method.getName().equals(name) && method.getDeclaringClass() == TapirGroup.class) {
                return method;
            }
        }
        return null;
    }

    private static String remarked(String remark) {
        return remark == null ? "" : remark.split(":")[0];
    }

    private static String answer(Method method, String written) {
        List<Object> arguments = new ArrayList<>();
        for (String one : written.isEmpty() ? new String[0] : written.split(", ")) {
            if (one.equals("true") || one.equals("false")) {
                arguments.add(Boolean.valueOf(one));
            } else {
                arguments.add(Integer.valueOf(one));
            }
        }
        try {
            return String.valueOf(method.invoke(group, arguments.toArray()));
        } catch (InvocationTargetException e) {
            return "throws " + e.getCause().getClass().getSimpleName();
        } catch (IllegalAccessException e) {
            return "can't be called";
        }
    }
}
