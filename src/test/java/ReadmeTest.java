import java.lang.reflect.InvocationTargetException;
import java.lang.reflect.Method;
import java.nio.file.Files;
import java.nio.file.Path;
import java.util.ArrayList;
import java.util.List;
import java.util.regex.Matcher;
import java.util.regex.Pattern;

/** The calls that README.md shows, made one behind the other: each answers what stands behind it. */
public final class ReadmeTest {
    private static final Pattern CALL = Pattern.compile("x\\.([a-zA-Z]+)\\(([-0-9, ]*)\\);\\s*// (-?[0-9]+|true|false)(:.*)?");
    private static final Pattern QUOTED = Pattern.compile("\"([^\"]*)\"");

    private final WonderParcels x = new WonderParcels();
    private int calls = 0;

    public static void main(String[] args) throws Exception {
        ReadmeTest test = new ReadmeTest();
        for (String statement : statements(Files.readString(Path.of("README.md")))) {
            test.follow(statement);
        }
        Check.is("README.md shows calls", test.calls >= 30, true);
        Check.end("ReadmeTest");
    }

    /** The lines of all blocks of Java; a tape that goes over several lines is one. */
    private static List<String> statements(String readme) {
        List<String> all = new ArrayList<>();
        boolean java = false;
        String open = "";
        for (String line : readme.split("\n")) {
            if (line.startsWith("```")) {
                java = line.equals("```java");
            } else if (java) {
                open += line;
                if (!open.startsWith("tape") || open.endsWith(");")) {
                    all.add(open);
                    open = "";
                }
            }
        }
        Check.is("README.md ends what it shows", open, "");
        return all;
    }

    private void follow(String statement) throws ReflectiveOperationException {
        if (statement.startsWith("tape(x, \"")) {
            StringBuilder text = new StringBuilder();
            Matcher quoted = QUOTED.matcher(statement);
            while (quoted.find()) {
                text.append(quoted.group(1));
            }
            Check.tape(x, text.toString());
        } else if (statement.startsWith("tape(x, ")) {
            Object[] numbers = numbers(statement.substring("tape(x, ".length(), statement.length() - ");".length()));
            byte[] bytes = new byte[numbers.length];
            for (int k = 0; k < bytes.length; k++) {
                bytes[k] = ((Integer) numbers[k]).byteValue();
            }
            Check.tape(x, bytes);
        } else if (!statement.equals("WonderParcels x = new WonderParcels();")) {
            call(statement);
        }
    }

    private void call(String statement) throws ReflectiveOperationException {
        Matcher call = CALL.matcher(statement);
        Check.is("README.md: " + statement, call.matches(), true);
        Object[] numbers = numbers(call.group(2));
        Class<?>[] types = new Class<?>[numbers.length];
        java.util.Arrays.fill(types, int.class);
        Method method = WonderParcels.class.getMethod(call.group(1), types);
        try {
            Check.is(statement, String.valueOf(method.invoke(x, numbers)), call.group(3));
        } catch (InvocationTargetException e) {
            Check.is(statement, String.valueOf(e.getCause()), call.group(3));
        }
        calls++;
    }

    private static Object[] numbers(String list) {
        String[] parts = list.isBlank() ? new String[0] : list.split(", *");
        Object[] numbers = new Object[parts.length];
        for (int k = 0; k < parts.length; k++) {
            numbers[k] = Integer.valueOf(parts[k].trim());
        }
        return numbers;
    }
}
