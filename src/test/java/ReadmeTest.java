import java.io.IOException;
import java.lang.reflect.Field;
import java.lang.reflect.Method;
import java.lang.reflect.Modifier;
import java.nio.file.DirectoryStream;
import java.nio.file.Files;
import java.nio.file.Path;
import java.util.ArrayList;
import java.util.Arrays;
import java.util.List;
import java.util.TreeSet;
import java.util.regex.Matcher;
import java.util.regex.Pattern;

/** README.md, read from the project's directory: what it says of the class and of its tests holds. */
public final class ReadmeTest {
    private static final Pattern MAKING = Pattern.compile("BlockExecutor x = new BlockExecutor\\((-?\\d+)\\);");
    private static final Pattern CALL = Pattern.compile("x\\.(\\w+)\\(([^)]*)\\); +// (-?\\w+)(: .+)?");
    private static final Pattern TEST_NAME = Pattern.compile("`(\\w+Test)`");

    private final String readme;

    private ReadmeTest(String readme) {
        this.readme = readme;
    }

    public static void main(String[] args) throws IOException, ReflectiveOperationException {
        ReadmeTest test = new ReadmeTest(Files.readString(Path.of("README.md")));
        test.exampleAnswersAsItSays();
        test.namesEveryCall();
        test.namesEveryConstantWithItsNumber();
        test.namesTheTestsThatThereAre();
        Check.end();
    }

    private void exampleAnswersAsItSays() throws ReflectiveOperationException {
        List<String> lines = example();
        Matcher making = MAKING.matcher(lines.get(0));
        Check.due("the example begins with a new object", making.matches(), true);
        BlockExecutor x = new BlockExecutor(Integer.parseInt(making.group(1)));
        TreeSet<String> called = new TreeSet<>();
        for (String line : lines.subList(1, lines.size())) {
            Matcher call = CALL.matcher(line);
            boolean understood = call.matches();
            Check.due("a call with its answer: " + line, understood, true);
            if (understood) {
                Check.due("README: " + line, answer(x, call.group(1), call.group(2)), due(call.group(3)));
                called.add(call.group(1));
            }
        }
        Check.due("the calls of the example", called.toString(), publicCalls().toString());
    }

    /** The lines of the first block of Java. */
    private List<String> example() {
        String begin = "```java\n";
        int start = readme.indexOf(begin) + begin.length();
        return Arrays.asList(readme.substring(start, readme.indexOf("\n```", start)).split("\n"));
    }

    private static String answer(BlockExecutor x, String name, String told) throws ReflectiveOperationException {
        List<Object> numbers = new ArrayList<>();
        for (String number : told.isEmpty() ? new String[0] : told.split(", ")) {
            numbers.add(Integer.parseInt(number));
        }
        Class<?>[] types = new Class<?>[numbers.size()];
        Arrays.fill(types, int.class);
        return BlockExecutor.class.getMethod(name, types).invoke(x, numbers.toArray()).toString();
    }

    /** A constant is told by its name, anything else as it is. */
    private static String due(String told) throws ReflectiveOperationException {
        boolean constant = told.equals(told.toUpperCase()) && Character.isLetter(told.charAt(0));
        return constant ? BlockExecutor.class.getField(told).get(null).toString() : told;
    }

    private void namesEveryCall() {
        for (String name : publicCalls()) {
            Check.due("README's tables have " + name, readme.contains("\n| `" + name + "("), true);
        }
    }

    private void namesEveryConstantWithItsNumber() throws ReflectiveOperationException {
        for (Field field : BlockExecutor.class.getFields()) {
            String row = "\n| `" + field.getName() + "` | " + field.get(null) + " |";
            Check.due("README has the row" + row, readme.contains(row), true);
        }
    }

    private void namesTheTestsThatThereAre() throws IOException {
        TreeSet<String> told = new TreeSet<>();
        for (Matcher name = TEST_NAME.matcher(readme); name.find(); ) {
            told.add(name.group(1));
        }
        TreeSet<String> there = new TreeSet<>();
        try (DirectoryStream<Path> files = Files.newDirectoryStream(Path.of("src/test/java"), "*Test.java")) {
            for (Path file : files) {
                there.add(file.getFileName().toString().replace(".java", ""));
            }
        }
        Check.due("the tests that README names", told.toString(), there.toString());
    }

    private static TreeSet<String> publicCalls() {
        TreeSet<String> names = new TreeSet<>();
        for (Method method : BlockExecutor.class.getDeclaredMethods()) {
            if (Modifier.isPublic(method.getModifiers())) {
                names.add(method.getName());
            }
        }
        return names;
    }
}
