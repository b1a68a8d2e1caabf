import java.io.IOException;
import java.lang.management.ManagementFactory;
import java.lang.reflect.Field;
import java.lang.reflect.Method;
import java.lang.reflect.Modifier;
import java.nio.file.Files;
import java.nio.file.Path;
import java.util.ArrayList;
import java.util.Arrays;
import java.util.List;
import java.util.Set;
import java.util.TreeSet;
import java.util.regex.Matcher;
import java.util.regex.Pattern;

/**
 * Rules of ../shared/LANGUAGE.md that can be seen in the text of the program, read from the
 * project's directory, or in its class. The numbers are those of the rules; FaceTest has rule 1.
 */
public final class LanguageTest {
    /** Some of them, like import, are free, but the program has no need of them. */
    private static final String[] FORBIDDEN = {
        "package", "import", "protected", "throw", "throws", "try", "catch", "synchronized", "assert",
        "volatile", "transient", "native", "equals", "hashCode", "toString", "var",
    };
    private static final Set<String> LIBRARY = Set.of(
            "Math.max", "Math.min", "Math.floorMod", "Integer.compare", "System.arraycopy");
    private static final int MOST_LINES = 60;
    private static final int[] ARGUMENTS = {
        Integer.MIN_VALUE, -1, 0, 1, 2, 3, 4, 7, 8, 59, 60, Integer.MAX_VALUE,
    };

    /** With the 61 calls that fill the table they stay below 512 calls. */
    private static final int ROUNDS = 30;
    /** No object of the machine is smaller. */
    private static final int SMALLEST_OBJECT = 8;

    public static void main(String[] args) throws IOException {
        // First of all: code that has run often is compiled, and may then spare objects that it makes.
        noCallMakesAnObject();
        String text = withoutComments(Files.readString(Path.of("src/main/java/BlockExecutor.java")));
        forbiddenWords(text);
        libraryCalls(text);
        shortMethods(text);
        List<Class<?>> classes = new ArrayList<>(List.of(BlockExecutor.class));
        classes.addAll(Arrays.asList(BlockExecutor.class.getDeclaredClasses()));
        Check.due("11: at most twelve classes", classes.size() <= 12, true);
        for (Class<?> one : classes) {
            shapeOf(one);
        }
        for (int a : ARGUMENTS) {
            for (int b : ARGUMENTS) {
                Check.sentence("7: No call may ever throw, for any arguments in any state", () -> callAll(a, b));
            }
        }
        Check.end();
    }

    private static String withoutComments(String text) {
        return text.replaceAll("(?s)/\\*.*?\\*/", "").replaceAll("//[^\n]*", "");
    }

    private static void forbiddenWords(String text) {
        for (String word : FORBIDDEN) {
            boolean found = Pattern.compile("\\b" + word + "\\b").matcher(text).find();
            Check.due("the word " + word + " in the program", found, false);
        }
        for (String sign : new String[] {"->", "::", "@"}) {
            Check.due("the sign " + sign + " in the program", text.contains(sign), false);
        }
    }

    /** 4: only what the program is known to use, all of it from the rule's list. */
    private static void libraryCalls(String text) {
        TreeSet<String> others = new TreeSet<>();
        for (Matcher call = Pattern.compile("\\b[A-Z]\\w*[a-z]\\w*\\.\\w+").matcher(text); call.find(); ) {
            if (!LIBRARY.contains(call.group())) {
                others.add(call.group());
            }
        }
        Check.due("4: calls of the library outside the list", others.toString(), "[]");
    }

    /** 11: a method or constructor begins with a line that ends in ") {", four or eight spaces in. */
    private static void shortMethods(String text) {
        Pattern head = Pattern.compile("\n( {4}| {8})(?!if|for|while|switch)\\w[^\n;=]*\\) \\{\n");
        int methods = 0;
        for (Matcher found = head.matcher(text); found.find(); ) {
            methods++;
            int end = text.indexOf("\n" + found.group(1) + "}", found.end() - 1);
            long lines = text.substring(found.start() + 1, end + 1).lines().count() + 1;
            Check.due("11: lines of " + found.group().strip(), lines <= MOST_LINES, true);
        }
        Check.due("the methods are found", methods >= BlockExecutor.class.getDeclaredMethods().length, true);
    }

    private static void shapeOf(Class<?> one) {
        int fields = 0;
        for (Field field : one.getDeclaredFields()) {
            boolean isStatic = Modifier.isStatic(field.getModifiers());
            boolean isConstant = Modifier.isFinal(field.getModifiers()) && field.getType() == int.class;
            Check.due("5: the static field " + field + " is constant", !isStatic || isConstant, true);
            fields += isStatic ? 0 : 1;
        }
        Check.due("11: at most twenty fields in " + one, fields <= 20, true);
        for (Method method : one.getDeclaredMethods()) {
            Check.due("11: at most seven parameters of " + method, method.getParameterCount() <= 7, true);
        }
        int modifiers = one.getModifiers();
        boolean inside = one != BlockExecutor.class;
        Check.due("2: " + one + " is static", !inside || Modifier.isStatic(modifiers), true);
        Check.due("1: " + one + " is not seen", !inside || (modifiers & (Modifier.PUBLIC | Modifier.PROTECTED)) == 0, true);
    }

    /** Every call with these arguments, on a new object that has tables in the slots 0 to 3. */
    private static void callAll(int a, int b) {
        BlockExecutor x = new BlockExecutor(a);
        Check.fillSame(x, 0, 60, a, b);
        x.store(1);
        x.sort(0, 0, 2);
        x.select(0, a, b, 3);
        x.put(a, b);
        x.rows(a);
        x.key(a, b);
        x.value(a, b);
        x.sort(a, b, 4);
        x.select(a, a, b, b);
        x.distinct(a, b);
        x.group(a, b);
        x.combine(a, b, a, b);
        x.combine(b, 0, 2, a);
        x.join(a, b, 5);
        x.join(0, a, b);
        x.store(b);
        x.drop(a);
        x.transfers();
        x.blocks();
    }

    /** 12: what the machine makes of its own when a call is new to it is made with the first object. */
    private static void noCallMakesAnObject() {
        if (!(ManagementFactory.getThreadMXBean() instanceof com.sun.management.ThreadMXBean threads)) {
            System.out.println("this machine does not tell what a call makes");
            return;
        }
        long made = 0;
        for (int object = 0; object < 2; object++) {
            BlockExecutor x = Check.fillCounting(new BlockExecutor(3), 0, 60);
            long before = threads.getCurrentThreadAllocatedBytes();
            for (int round = 0; round < ROUNDS; round++) {
                makeTables(x);
                dropTables(x);
            }
            made = threads.getCurrentThreadAllocatedBytes() - before;
        }
        // A call that makes one object makes one in every round.
        boolean none = made < (long) ROUNDS * SMALLEST_OBJECT;
        Check.due("12: the calls make no object (" + made + " bytes)", none, true);
    }

    private static void makeTables(BlockExecutor x) {
        x.sort(0, 2, 1);
        x.select(0, 0, 59, 2);
        x.distinct(0, 3);
        x.group(0, 4);
        x.join(0, 1, 5);
        x.combine(0, 0, 1, 6);
        x.put(1, 1);
        x.store(7);
    }

    private static void dropTables(BlockExecutor x) {
        for (int slot = 1; slot < 8; slot++) {
            Check.due("drop", x.drop(slot) > 0, true);
        }
    }
}
