import java.io.IOException;
import java.lang.reflect.Method;
import java.lang.reflect.Modifier;
import java.nio.file.Files;
import java.nio.file.Path;
import java.util.ArrayList;
import java.util.HashMap;
import java.util.HashSet;
import java.util.List;
import java.util.Map;
import java.util.Set;
import java.util.regex.Matcher;
import java.util.regex.Pattern;

/** Makes each call that a java block of README.md shows, and looks that it answers what is written behind it. */
public final class ReadmeTest {
    private static final Check CHECK = new Check();
    private static final Pattern MADE = Pattern.compile("SelfRows (\\w+) = new SelfRows\\(\\);(?:\\s*//.*)?");
    private static final Pattern CALL = Pattern.compile("(\\w+)\\.(\\w+)\\(([^)]*)\\);\\s*// (-?\\d+|[A-Z]+)\\b(.*)");
    private static final Pattern WORD = Pattern.compile("the word is (empty|[1-6](?:, [1-6])*)$");

    private final List<String> wrong = new ArrayList<>();
    private final Set<String> shown = new HashSet<>();
    private final Map<String, SelfRows> objects = new HashMap<>();

    public static void main(String[] args) throws IOException, ReflectiveOperationException {
        ReadmeTest readme = new ReadmeTest();
        readme.read(Files.readString(Path.of("README.md")));
        for (String line : readme.wrong) CHECK.due(line, false);
        for (Method method : SelfRows.class.getDeclaredMethods()) {
            if (!Modifier.isPublic(method.getModifiers())) continue;
            CHECK.due("README.md shows " + method.getName(), readme.shown.contains(method.getName()));
        }
        wrongPagesAreFound();
        CHECK.end();
    }

    private void read(String page) throws ReflectiveOperationException {
        boolean inBlock = false;
        for (String line : page.split("\n")) {
            if (line.startsWith("```")) {
                inBlock = line.equals("```java");
                objects.clear();
            } else if (inBlock && !line.isBlank()) {
                readLine(line);
            }
        }
    }

    private void readLine(String line) throws ReflectiveOperationException {
        Matcher made = MADE.matcher(line);
        Matcher call = CALL.matcher(line);
        if (made.matches()) objects.put(made.group(1), new SelfRows());
        else if (!call.matches() || !objects.containsKey(call.group(1))) wrong.add("a call with its answer: " + line);
        else compare(line, call);
    }

    private void compare(String line, Matcher call) throws ReflectiveOperationException {
        SelfRows x = objects.get(call.group(1));
        shown.add(call.group(2));
        long got = answer(x, call.group(2), call.group(3));
        if (got != due(call.group(4))) wrong.add(line + ", which answers " + got);
        Matcher word = WORD.matcher(call.group(5));
        if (word.find() && !word.group(1).equals(wordOf(x))) wrong.add(line + ", where the word is " + wordOf(x));
        else if (call.group(5).contains("the word is") && !word.find(0)) wrong.add("a word that can be read: " + line);
    }

    private static long answer(SelfRows x, String name, String written) throws ReflectiveOperationException {
        String[] numbers = written.isBlank() ? new String[0] : written.split(",\\s*");
        Class<?>[] types = new Class<?>[numbers.length];
        Object[] arguments = new Object[numbers.length];
        for (int i = 0; i < numbers.length; i++) {
            types[i] = int.class;
            arguments[i] = Integer.parseInt(numbers[i]);
        }
        return ((Number) SelfRows.class.getMethod(name, types).invoke(x, arguments)).longValue();
    }

    /** A number as it is, or that of a constant of the face. */
    private static long due(String written) throws ReflectiveOperationException {
        if (!Character.isUpperCase(written.charAt(0))) return Long.parseLong(written);
        return SelfRows.class.getField(written).getInt(null);
    }

    private static String wordOf(SelfRows x) {
        StringBuilder word = new StringBuilder();
        for (int i = 0; i < x.told(1); i++) word.append(i == 0 ? "" : ", ").append(x.letter(i));
        return word.length() == 0 ? "empty" : word.toString();
    }

    /** Pages with one fault each: were they passed, then README.md would be, whatever it shows. */
    private static void wrongPagesAreFound() throws ReflectiveOperationException {
        due(0, "x.at(0, 5);   // 2: number 5");
        due(0, "x.at(1, 5);   // UNKNOWN: there is no row 1");
        due(0, "x.take(0, 0, 3);  // 3: the word is 1, 2, 2");
        due(0, "x.clear();  // 0: the word is empty");
        due(1, "x.at(0, 5);   // 1: number 5");
        due(1, "x.at(1, 5);   // OUTSIDE: there is no row 1");
        due(1, "x.at(0, 5);");
        due(1, "x.at(0, 5);   // number 5");
        due(1, "y.at(0, 5);   // 2: of an object that is not made");
        due(1, "x.take(0, 0, 3);  // 3: the word is 1, 2, 1");
        due(1, "x.take(0, 0, 3);  // 3: the word is 1, 2");
        due(1, "x.take(0, 0, 3);  // 3: the word is 1 2 2, as the row begins");
        due(1, "x.take(0, 0, 3);  // 3: the word is empty");
    }

    private static void due(int faults, String line) throws ReflectiveOperationException {
        ReadmeTest page = new ReadmeTest();
        page.read("```java\nSelfRows x = new SelfRows();\n" + line + "\n```\n");
        CHECK.due("faults found in " + line, page.wrong.size(), faults);
    }
}
