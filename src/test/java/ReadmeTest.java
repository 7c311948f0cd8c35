import java.io.IOException;
import java.lang.reflect.InvocationTargetException;
import java.lang.reflect.Method;
import java.nio.file.Files;
import java.nio.file.Path;
import java.util.Set;
import java.util.TreeSet;
import java.util.regex.Matcher;
import java.util.regex.Pattern;

/** README.md tells how the class is used: its texts are fed, its calls answer as told there, and no method is left out. */
public final class ReadmeTest {
    private static final Pattern BLOCK = Pattern.compile("```(\\w+)\n(.*?)```", Pattern.DOTALL);
    private static final Pattern CALL = Pattern.compile("x\\.(\\w+)\\((.*?)\\); // (throws \\w+|\\S+).*");

    private static VoteAgainst x = new VoteAgainst();
    private static final Set<String> called = new TreeSet<>();

    public static void main(String[] args) throws IOException, IllegalAccessException {
        Matcher block = BLOCK.matcher(Files.readString(Path.of("README.md")));
        while (block.find()) {
            switch (block.group(1)) {
                case "text" -> Check.feed(x, block.group(2));
                case "java" -> callEach(block.group(2));
                default -> { }
            }
        }
        for (Method method : VoteAgainst.class.getMethods()) {
            if (method.getDeclaringClass() == VoteAgainst.class) {
                Check.due("README.md uses " + method.getName(), called.contains(method.getName()), true);
            }
        }
        Check.end();
    }

    private static void callEach(String block) throws IllegalAccessException {
        for (String line : block.split("\n")) {
            Matcher call = CALL.matcher(line);
            if (line.equals("VoteAgainst x = new VoteAgainst();")) {
                x = new VoteAgainst();
            } else if (call.matches()) {
                called.add(call.group(1));
                String answer = answer(call.group(1), call.group(2).isEmpty() ? new String[0] : call.group(2).split(", "));
                Check.due(line + ": answered " + answer + ", which is as told", answer.equals(call.group(3)), true);
            }
        }
    }

    private static String answer(String name, String[] arguments) throws IllegalAccessException {
        Method method = method(name);
        Object[] values = new Object[arguments.length];
        for (int i = 0; i < arguments.length; i++) {
            values[i] = value(method.getParameterTypes()[i], arguments[i]);
        }
        try {
            return String.valueOf(method.invoke(x, values));
        } catch (InvocationTargetException e) {
            return "throws " + e.getCause().getClass().getSimpleName();
        }
    }

    private static Method method(String name) {
        for (Method method : VoteAgainst.class.getMethods()) {
            if (method.getName().equals(name)) {
                return method;
            }
        }
        throw new IllegalArgumentException("README.md calls what is not there: " + name);
    }

    private static Object value(Class<?> type, String text) {
        if (type == boolean.class) {
            return Boolean.valueOf(text);
        }
        if (type == long.class) {
            return Long.decode(text.replace("L", ""));
        }
        return Integer.valueOf(text);
    }
}
