import java.io.IOException;
import java.lang.reflect.InvocationTargetException;
import java.lang.reflect.Method;
import java.lang.reflect.Modifier;
import java.nio.file.Files;
import java.nio.file.Path;
import java.util.ArrayList;
import java.util.HashMap;
import java.util.List;
import java.util.Map;
import java.util.regex.Matcher;
import java.util.regex.Pattern;

/**
 * README.md's example is run as it stands there: each call must answer the number with which the
 * comment behind it begins. And each call of the face must be told of.
 */
public final class ReadmeTest {
    private static final Pattern MAKING = Pattern.compile("RatePasses x = new RatePasses\\((\\d+)\\);.*");
    private static final Pattern CALLING =
        Pattern.compile("(?:int (\\w+) = )?x\\.(\\w+)\\((.*?)\\); +// (-?\\d+)(?:: .*)?");

    private static RatePasses x = null;
    private static final Map<String, Long> names = new HashMap<>();

    public static void main(String[] args) throws IOException, IllegalAccessException {
        List<String> readme = Files.readAllLines(Path.of("README.md"));
        List<String> example = example(readme);
        Check.due("the example has lines", example.size() > 10, true);
        for (String line : example) {
            runLine(line);
        }
        for (Method method : RatePasses.class.getDeclaredMethods()) {
            if (Modifier.isPublic(method.getModifiers())) {
                dueTold(readme, method);
            }
        }
        Check.end();
    }

    private static List<String> example(List<String> readme) {
        List<String> lines = new ArrayList<>();
        int first = readme.indexOf("```java") + 1;
        for (int i = first; i > 0 && i < readme.size() && !readme.get(i).equals("```"); i++) {
            lines.add(readme.get(i));
        }
        return lines;
    }

    private static void runLine(String line) throws IllegalAccessException {
        Matcher making = MAKING.matcher(line);
        Matcher calling = CALLING.matcher(line);
        if (making.matches()) {
            x = new RatePasses(Integer.parseInt(making.group(1)));
        } else if (calling.matches() && x != null) {
            long got = call(calling.group(2), calling.group(3));
            Check.due("README: " + line, got, Long.parseLong(calling.group(4)));
            if (calling.group(1) != null) {
                names.put(calling.group(1), got);
            }
        } else {
            Check.say("README: not read: " + line);
        }
    }

    private static long call(String name, String arguments) throws IllegalAccessException {
        String[] texts = arguments.isEmpty() ? new String[0] : arguments.split(", ");
        for (Method method : RatePasses.class.getDeclaredMethods()) {
            if (method.getName().equals(name) && method.getParameterCount() == texts.length) {
                try {
                    return ((Number) method.invoke(x, values(texts, method.getParameterTypes()))).longValue();
                } catch (InvocationTargetException e) {
                    Check.say("README: " + name + "(" + arguments + ") threw " + e.getCause());
                    return 0;
                }
            }
        }
        Check.say("README: no such call: " + name + "(" + arguments + ")");
        return 0;
    }

    private static Object[] values(String[] texts, Class<?>[] types) {
        Object[] values = new Object[texts.length];
        for (int i = 0; i < texts.length; i++) {
            if (types[i] == boolean.class) {
                values[i] = texts[i].equals("true");
            } else {
                Long known = names.get(texts[i]);
                long number = known == null ? Long.parseLong(texts[i]) : known;
                values[i] = number;
                if (types[i] == int.class) {
                    values[i] = (int) number;
                }
            }
        }
        return values;
    }

    private static void dueTold(List<String> readme, Method method) {
        for (String line : readme) {
            String call = "`" + method.getName() + "(";
            if (line.startsWith("| " + call) || line.startsWith(call)) {
                return;
            }
        }
        Check.say("README does not tell of " + method.getName());
    }
}
