import java.lang.reflect.Constructor;
import java.lang.reflect.Field;
import java.lang.reflect.Member;
import java.lang.reflect.Method;
import java.lang.reflect.Modifier;
import java.nio.file.Files;
import java.nio.file.Path;
import java.util.Arrays;
import java.util.Set;
import java.util.TreeSet;
import java.util.stream.Collectors;

/** The public face, and those rules of LANGUAGE.md that a program can see. It is run from the project's folder. */
public final class FaceTest {
    private static final String[] FACE = {
        "int soil(int, int)", "int price(int, int)", "int coin(int, int, int)", "int of(int, int)", "int set(int, int, int)",
        "int turn(int, int)", "int as(int, int)", "int swap(int, int)", "int plant(int)", "int purse(int)",
        "int pay(int, int, int)", "int which(int, int)", "int over(int, int)", "int loan(int, int, int, int)",
        "int loanOf(int, int)", "int tax()", "int months(int)", "int now(int)", "int on(int, int)", "int purseOn(int, int)",
        "int rich(int)", "int rots(int)", "int when(int)", "int lacks(int)", "int best(int, int)", "int kind(int, int)",
        "int cellar(int)", "int field(int, int)", "int priceFor(int, int)", "int taxMonth()", "int bank()", "int feed(int, int)",
        "int wipe()", "int market()", "int sheet(int, int, int)", "long write(int, int, long)", "int copy(int, int, int, int, int)",
        "int lays(int)", "int book(int, int)", "int read(int, int)", "int image()", "int undo()", "int tear()", "int count(int)",
        "int status(int)"};

    private static final String[] NEVER = {
        "\\bthrow\\b", "\\btry\\b", "\\bcatch\\b", "\\bsynchronized\\b", "\\bassert\\b", "\\bimport\\b", "\\bpackage\\b", "->", "::",
        "\\bstatic \\{", "\\bSystem\\.(?!arraycopy\\b)", "\\bMath\\.\\w+Exact\\b", "\\bprotected\\b", "[^\\x00-\\x7f]",
        // Of the library the class takes these alone, all of them in rule 4.
        "\\b(?!Market\\.)[A-Z]\\w*[a-z]\\w*\\.(?!(max|min|bitCount|arraycopy)\\()", "\\bnew (?!Market\\(|Tape\\(|Sheet[\\[(]|int\\[|long\\[)"};

    private static final int MOST_LINES = 60;
    private static final int MOST_PARAMETERS = 7;

    public static void main(String[] args) throws Exception {
        publicFace();
        namesAreUnlike();
        fewParameters();
        source();
        shortMethods();
        Check.finish("FaceTest");
    }

    private static boolean isHidden(Member m) {
        return Modifier.isPrivate(m.getModifiers()) || m.isSynthetic();
    }

    private static void publicFace() {
        Class<SproutCoins> c = SproutCoins.class;
        Check.due("public and final", c.getModifiers(), Modifier.PUBLIC | Modifier.FINAL);
        Set<String> seen = new TreeSet<>();
        for (Method m : c.getDeclaredMethods()) {
            if (!isHidden(m)) {
                Check.due(m + " is public and no more", m.getModifiers(), Modifier.PUBLIC);
                String takes = Arrays.stream(m.getParameterTypes()).map(Class::getName).collect(Collectors.joining(", "));
                seen.add(m.getReturnType().getName() + " " + m.getName() + "(" + takes + ")");
            }
        }
        Set<String> due = new TreeSet<>(Arrays.asList(FACE));
        Check.due("the face: " + seen, seen.equals(due) ? 1 : 0, 1);
        Constructor<?>[] constructors = c.getDeclaredConstructors();
        Check.due("one constructor", constructors.length, 1);
        Check.due("of no arguments, public", constructors[0].getParameterCount() * 100 + constructors[0].getModifiers(), Modifier.PUBLIC);
        for (Field f : c.getDeclaredFields()) {
            Check.due(f + " is private", isHidden(f) ? 1 : 0, 1);
            Check.due(f + " is final if static", !Modifier.isStatic(f.getModifiers()) || Modifier.isFinal(f.getModifiers()) ? 1 : 0, 1);
        }
        for (Class<?> inside : c.getDeclaredClasses()) {
            Check.due(inside + " is static", Modifier.isStatic(inside.getModifiers()) ? 1 : 0, 1);
            Check.due(inside + " has some twenty fields",
                Arrays.stream(inside.getDeclaredFields()).filter(f -> !Modifier.isStatic(f.getModifiers())).count() <= 20 ? 1 : 0, 1);
        }
    }

    private static void namesAreUnlike() {
        Set<String> names = Arrays.stream(FACE).map(s -> s.substring(s.indexOf(' ') + 1, s.indexOf('('))).collect(Collectors.toSet());
        for (Method m : SproutCoins.class.getDeclaredMethods()) {
            Check.due(m + " bears no public name", isHidden(m) && names.contains(m.getName()) ? 0 : 1, 1);
        }
        for (Class<?> inside : SproutCoins.class.getDeclaredClasses()) {
            for (Method m : inside.getDeclaredMethods()) {
                Check.due(m + " bears no public name", names.contains(m.getName()) ? 0 : 1, 1);
            }
        }
    }

    private static void source() throws Exception {
        String text = Files.readString(Path.of("src/main/java/SproutCoins.java"));
        String code = text.replaceAll("(?s)/\\*.*?\\*/", " ").replaceAll("//[^\\n]*", " ");
        for (String never : NEVER) {
            Check.due("the source has " + never, code.split(never, -1).length - 1, 0);
        }
    }

    private static void fewParameters() {
        for (Method m : SproutCoins.class.getDeclaredMethods()) {
            Check.due(m + " has few parameters", m.getParameterCount() <= MOST_PARAMETERS ? 1 : 0, 1);
        }
        for (Class<?> inside : SproutCoins.class.getDeclaredClasses()) {
            for (Method m : inside.getDeclaredMethods()) {
                Check.due(m + " has few parameters", m.getParameterCount() <= MOST_PARAMETERS ? 1 : 0, 1);
            }
        }
    }

    /** A method begins where a line of its class's depth ends with a brace, and ends with the brace of that depth. */
    private static void shortMethods() throws Exception {
        String[] lines = Files.readString(Path.of("src/main/java/SproutCoins.java")).split("\n");
        for (int first = 0; first < lines.length; first++) {
            String line = lines[first];
            String depth = line.substring(0, line.length() - line.stripLeading().length());
            if (line.endsWith(") {") && depth.length() <= 8 && !line.matches(" *(if|for|while|switch|else|do)\\b.*")) {
                int last = first;
                while (last < lines.length - 1 && !lines[last].equals(depth + "}")) {
                    last++;
                }
                Check.due(line.strip() + " is short", last - first < MOST_LINES ? 1 : 0, 1);
            }
        }
    }
}
