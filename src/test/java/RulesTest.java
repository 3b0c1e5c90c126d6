import java.nio.file.Files;
import java.nio.file.Path;
import java.util.ArrayDeque;
import java.util.Deque;
import java.util.HashSet;
import java.util.LinkedHashMap;
import java.util.Map;
import java.util.Set;
import java.util.TreeSet;
import java.util.regex.Matcher;
import java.util.regex.Pattern;

/**
 * Rules 8, 9, 11 and 12 of LANGUAGE.md, as far as the source tells them: how deep calls go, which methods call themselves,
 * how loops end, and that objects are made where an object is made and nowhere else. Run from the project's folder.
 */
public final class RulesTest {
    private static final int MOST_DEEP = 8;
    private static final int MOST_CLASSES = 12;
    private static final Pattern HEAD = Pattern.compile(
        "^(?: {4}| {8})(?:(?:public|private|static|final) )*(?:[\\w\\[\\]]+ )?(\\w+)\\([^)]*\\) \\{$", Pattern.MULTILINE);
    private static final Pattern CALL = Pattern.compile("(?<!new )\\b(\\w+)\\(");
    private static final Set<String> NO_CALLS = Set.of("if", "for", "while", "switch", "return", "catch");
    // The one that tries a coin in and out of a payment; its depth is the coin's number, which only falls.
    private static final Set<String> RECURSIVE = Set.of("cheapest");

    private final String code;
    private final Map<String, String> bodies = new LinkedHashMap<>();
    private final Map<String, Set<String>> calls = new LinkedHashMap<>();

    private RulesTest(String code) {
        this.code = code;
        findBodies();
        findCalls();
    }

    public static void main(String[] args) throws Exception {
        String text = Files.readString(Path.of("src/main/java/SproutCoins.java"));
        RulesTest t = new RulesTest(text.replaceAll("(?s)/\\*.*?\\*/", " ").replaceAll("//[^\\n]*", " "));
        t.seesTheMethods();
        t.depth();
        t.recursion();
        t.loops();
        t.making();
        t.classes();
        Check.finish("RulesTest");
    }

    /** A body goes from its head to the brace that closes it. No text in the class has a brace. */
    private void findBodies() {
        Matcher m = HEAD.matcher(code);
        while (m.find()) {
            int open = 1;
            int at = m.end();
            while (open > 0 && at < code.length()) {
                open += code.charAt(at) == '{' ? 1 : code.charAt(at) == '}' ? -1 : 0;
                at++;
            }
            String body = code.substring(m.end(), at);
            Check.due(m.group(1) + " is the only one of its name", bodies.put(m.group(1), body) == null ? 1 : 0, 1);
        }
    }

    private void findCalls() {
        for (String name : bodies.keySet()) {
            Set<String> called = new TreeSet<>();
            Matcher m = CALL.matcher(bodies.get(name));
            while (m.find()) {
                if (!NO_CALLS.contains(m.group(1))) {
                    called.add(m.group(1));
                }
            }
            calls.put(name, called);
        }
    }

    /** That the reading of the source sees all there is: each method that the machine knows has a body here. */
    private void seesTheMethods() {
        Set<Class<?>> classes = new HashSet<>(Set.of(SproutCoins.class.getDeclaredClasses()));
        classes.add(SproutCoins.class);
        for (Class<?> c : classes) {
            for (java.lang.reflect.Method m : c.getDeclaredMethods()) {
                Check.due(m + " is seen", m.isSynthetic() || bodies.containsKey(m.getName()) ? 1 : 0, 1);
            }
        }
    }

    private void depth() {
        for (String name : bodies.keySet()) {
            Deque<String> deepest = deepest(name, new ArrayDeque<>());
            Check.due("calls go at most " + MOST_DEEP + " deep: " + deepest, deepest.size() <= MOST_DEEP ? 1 : 0, 1);
        }
    }

    /** The longest chain of calls from a method on, each method once: the library's functions are its last ones. */
    private Deque<String> deepest(String name, Deque<String> open) {
        Deque<String> longest = new ArrayDeque<>();
        open.push(name);
        for (String called : calls.getOrDefault(name, Set.of())) {
            if (!open.contains(called)) {
                Deque<String> chain = deepest(called, open);
                longest = chain.size() > longest.size() ? chain : longest;
            }
        }
        open.pop();
        longest.push(name);
        return longest;
    }

    private void recursion() {
        for (String name : bodies.keySet()) {
            Check.due(name + " calls itself only if it may", reaches(name, name, new HashSet<>()) && !RECURSIVE.contains(name) ? 1 : 0, 0);
        }
    }

    private boolean reaches(String from, String to, Set<String> seen) {
        for (String called : calls.getOrDefault(from, Set.of())) {
            if (called.equals(to) || (seen.add(called) && reaches(called, to, seen))) {
                return true;
            }
        }
        return false;
    }

    /** Each loop has a counter that is held against a bound in its own line. */
    private void loops() {
        Matcher m = Pattern.compile("\\b(for|while|do)\\b([^{]*)\\{").matcher(code);
        int seen = 0;
        while (m.find()) {
            seen++;
            boolean counts = m.group(1).equals("for") && m.group(2).matches(" \\(int (\\w+) = [^;]*; \\1 (<|<=|>=) [^;]*; \\1(\\+\\+|--)\\) ");
            boolean walks = m.group(1).equals("while") && m.group(2).matches(" \\(\\w+ < length && .*\\) ");
            Check.due("the loop" + m.group(2) + "has an end", counts || walks ? 1 : 0, 1);
        }
        Check.due("loops are seen", seen > 30 ? 1 : 0, 1);
    }

    /** Rows are made with the object and used again, so that no run of calls fills the room. */
    private void making() {
        for (String name : bodies.keySet()) {
            boolean makes = bodies.get(name).matches("(?s).*\\bnew\\b.*");
            Check.due(name + " makes nothing", makes && !name.equals("SproutCoins") ? 1 : 0, 0);
        }
    }

    private void classes() {
        Check.due("classes inside", SproutCoins.class.getDeclaredClasses().length < MOST_CLASSES ? 1 : 0, 1);
    }
}
