import java.io.File;
import java.lang.reflect.Method;
import java.lang.reflect.Modifier;
import java.nio.file.Files;
import java.nio.file.Path;
import java.util.HashMap;
import java.util.Map;
import java.util.regex.Matcher;
import java.util.regex.Pattern;

/** README.md: each call in it answers what the page says, and the page names every call and every test. */
public final class ReadmeTest {
    private static final Pattern CALL = Pattern.compile("x\\.(\\w+)\\(([^)]*)\\);\\s*// (-?\\d+)(:.*)?");
    private static final String NEW = "SproutCoins x = new SproutCoins();";

    public static void main(String[] args) throws Exception {
        String page = Files.readString(Path.of("README.md"));
        Map<String, Method> methods = methods();
        examples(page, methods);
        for (String name : methods.keySet()) {
            Check.due("the page names " + name, page.contains("`" + name + "`") ? 1 : 0, 1);
        }
        tests(page);
        Check.finish("ReadmeTest");
    }

    private static Map<String, Method> methods() {
        Map<String, Method> all = new HashMap<>();
        for (Method m : SproutCoins.class.getDeclaredMethods()) {
            if (Modifier.isPublic(m.getModifiers())) {
                all.put(m.getName(), m);
            }
        }
        return all;
    }

    private static void examples(String page, Map<String, Method> methods) throws Exception {
        Matcher block = Pattern.compile("(?s)```java\\n(.*?)```").matcher(page);
        int blocks = 0;
        while (block.find()) {
            blocks++;
            SproutCoins x = null;
            for (String line : block.group(1).split("\n")) {
                if (line.equals(NEW)) {
                    x = new SproutCoins();
                } else {
                    example(x, line, methods);
                }
            }
        }
        Check.due("blocks of calls on the page", blocks, 4);
    }

    private static void example(SproutCoins x, String line, Map<String, Method> methods) throws Exception {
        Matcher call = CALL.matcher(line);
        Check.due("a call with its answer: " + line, call.matches() ? 1 : 0, 1);
        if (call.matches()) {
            Method m = methods.get(call.group(1));
            String[] given = call.group(2).isEmpty() ? new String[0] : call.group(2).split(", ");
            Object[] arguments = new Object[given.length];
            for (int i = 0; i < given.length; i++) {
                boolean isLong = m.getParameterTypes()[i] == long.class;
                arguments[i] = isLong ? (Object) Long.decode(given[i]) : (Object) Integer.decode(given[i]);
            }
            Check.due(line, ((Number) m.invoke(x, arguments)).longValue(), Long.parseLong(call.group(3)));
        }
    }

    private static void tests(String page) {
        String[] files = new File("src/test/java").list((folder, name) -> name.endsWith("Test.java"));
        Check.due("tests are seen", files != null && files.length > 10 ? 1 : 0, 1);
        for (String file : files == null ? new String[0] : files) {
            String name = file.substring(0, file.length() - ".java".length());
            Check.due("the page has a row for " + name, page.contains("| " + name + " |") ? 1 : 0, 1);
        }
    }
}
