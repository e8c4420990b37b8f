import java.lang.reflect.InvocationTargetException;
import java.lang.reflect.Method;
import java.lang.reflect.Modifier;
import java.nio.charset.StandardCharsets;
import java.nio.file.Files;
import java.nio.file.Path;
import java.util.HashMap;
import java.util.List;
import java.util.Map;
import java.util.regex.Matcher;
import java.util.regex.Pattern;
import java.util.stream.Stream;

/** What README.md says is so: its examples answer as they say, and it names every call and every test. */
public final class ReadmeTest {
    private static final Pattern MADE = Pattern.compile("DeltaRuns (\\w+) = new DeltaRuns\\(\\);");
    private static final Pattern CALLED = Pattern.compile("(\\w+)\\.(\\w+)\\(([^)]*)\\);\\s+// (-?\\d+)(: .*)?");
    private static final int FEWEST_CALLS = 25;

    public static void main(String[] args) throws Exception {
        String readme = Files.readString(Path.of("README.md"), StandardCharsets.UTF_8);
        examples(readme);
        textOfTheExample(readme);
        callsOfTheFace(readme);
        namesOfTests(readme);
        Due.end();
    }

    /** Each block has objects of its own; a line of it makes one, or is a call with its answer behind it. */
    private static void examples(String readme) throws Exception {
        Due.sentence("README.md: an example answers as it says");
        Matcher block = Pattern.compile("(?s)```java\n(.*?)```").matcher(readme);
        int calls = 0;
        while (block.find()) {
            Map<String, DeltaRuns> objects = new HashMap<>();
            for (String line : block.group(1).split("\n")) {
                Matcher made = MADE.matcher(line);
                Matcher called = CALLED.matcher(line);
                if (made.matches()) {
                    objects.put(made.group(1), new DeltaRuns());
                } else if (called.matches() && objects.containsKey(called.group(1))) {
                    int got = call(objects.get(called.group(1)), called.group(2), called.group(3));
                    Due.due(line.trim(), got, Integer.parseInt(called.group(4)));
                    calls++;
                } else {
                    Due.due("a line that is no call with its answer: " + line, line.isBlank() ? 0 : 1, 0);
                }
            }
        }
        Due.due("calls that it shows, " + FEWEST_CALLS + " at least", Math.min(FEWEST_CALLS, calls), FEWEST_CALLS);
    }

    private static int call(DeltaRuns object, String name, String numbers)
            throws IllegalAccessException, InvocationTargetException {
        String[] words = numbers.isBlank() ? new String[0] : numbers.split(",");
        Object[] values = new Object[words.length];
        for (int i = 0; i < words.length; i++) {
            values[i] = Integer.decode(words[i].trim());
        }
        for (Method method : DeltaRuns.class.getDeclaredMethods()) {
            if (Modifier.isPublic(method.getModifiers()) && method.getName().equals(name)
                    && method.getParameterCount() == values.length) {
                return (Integer) method.invoke(object, values);
            }
        }
        Due.due("there is no call " + name + " of " + values.length, 1, 0);
        return 0;
    }

    /** The text that the example tells beside its numbers is the one that they are. */
    private static void textOfTheExample(String readme) {
        Due.sentence("README.md: the numbers that are fed are the text that is told");
        Matcher fed = Pattern.compile("\\.feed\\((.*)\\);").matcher(readme);
        StringBuilder text = new StringBuilder();
        while (fed.find()) {
            for (String number : fed.group(1).split(",")) {
                int four = Integer.decode(number.trim());
                for (int shift = 24; shift >= 0; shift -= 8) {
                    text.append((char) (four >>> shift & 255));
                }
            }
        }
        Matcher told = Pattern.compile("`(year [^`]*)`").matcher(readme);
        int texts = 0;
        while (told.find()) {
            Due.due("'" + told.group(1) + "' is fed", text.indexOf(told.group(1)) >= 0 ? 1 : 0, 1);
            texts++;
        }
        Due.due("two texts are told", texts, 2);
    }

    private static void callsOfTheFace(String readme) {
        Due.sentence("README.md says how to use the class: each call of its face");
        for (Method method : DeltaRuns.class.getDeclaredMethods()) {
            if (Modifier.isPublic(method.getModifiers())) {
                String row = "(?m)^\\| `" + method.getName() + "\\(([^)]*)\\)` \\|";
                Matcher found = Pattern.compile(row).matcher(readme);
                boolean has = found.find();
                Due.due("a row for " + method.getName(), has ? 1 : 0, 1);
                int numbers = !has || found.group(1).isBlank() ? 0 : found.group(1).split(",").length;
                Due.due("its numbers", numbers, method.getParameterCount());
            }
        }
    }

    private static void namesOfTests(String readme) throws Exception {
        Due.sentence("README.md says how to run its tests: it names them all, and no others");
        Due.due(".ci/run is told", readme.contains("`.ci/run`") ? 1 : 0, 1);
        List<String> names;
        try (Stream<Path> files = Files.list(Path.of("src/test/java"))) {
            names = files.map(file -> file.getFileName().toString().replace(".java", "")).sorted().toList();
        }
        for (String name : names) {
            Due.due(name + " is told", readme.contains("`" + name + "`") ? 1 : 0, 1);
        }
        Matcher told = Pattern.compile("`(\\w+Test)`").matcher(readme);
        while (told.find()) {
            Due.due(told.group(1) + " is there", names.contains(told.group(1)) ? 1 : 0, 1);
        }
    }
}
