import java.io.IOException;
import java.lang.reflect.InvocationTargetException;
import java.lang.reflect.Method;
import java.lang.reflect.Modifier;
import java.nio.file.Files;
import java.nio.file.Path;
import java.util.ArrayList;
import java.util.HashMap;
import java.util.List;
import java.util.Map;
import java.util.TreeSet;
import java.util.regex.Matcher;
import java.util.regex.Pattern;
import java.util.stream.Stream;

/** README.md: each call that it shows answers what stands behind it, and all tests are named there. */
public final class ReadmeTest {
    private static final Pattern NEW_TILL = Pattern.compile("BasketOffers (\\w+) = new BasketOffers\\(\\);");
    private static final Pattern CALL = Pattern.compile(
            "(?:int (\\w+) = )?(\\w+)\\.(\\w+)\\(([^()]*)\\); +// ((?:throws )?[^, ]+)(?:, .+)?");
    private static final Pattern TEST_ROW = Pattern.compile("\\| `(\\w+)` \\|.*");

    private final Map<String, BasketOffers> tills = new HashMap<>();
    private final Map<String, Integer> numbers = new HashMap<>();
    private final TreeSet<String> shown = new TreeSet<>();

    public static void main(String[] args) throws IOException, IllegalAccessException {
        List<String> lines = Files.readAllLines(Path.of("README.md"));
        new ReadmeTest().makeCalls(shownCode(lines));
        namesAllTests(lines);
        Check.end();
    }

    private static List<String> shownCode(List<String> lines) {
        List<String> code = new ArrayList<>();
        boolean inside = false;
        for (String line : lines) {
            if (line.startsWith("```")) {
                inside = line.equals("```java");
            } else if (inside) {
                code.add(line);
            }
        }
        return code;
    }

    private void makeCalls(List<String> code) throws IllegalAccessException {
        for (String line : code) {
            Matcher made = NEW_TILL.matcher(line);
            Matcher call = CALL.matcher(line);
            if (made.matches()) {
                tills.put(made.group(1), new BasketOffers());
            } else if (call.matches() && tills.containsKey(call.group(2))) {
                make(line, call);
            } else {
                Check.due("reading " + line, "nothing that can be made", "a call and its answer");
            }
        }
        TreeSet<String> all = new TreeSet<>();
        for (Method method : BasketOffers.class.getDeclaredMethods()) {
            if (Modifier.isPublic(method.getModifiers())) {
                all.add(method.getName());
            }
        }
        Check.due("the methods that are shown", shown, all);
    }

    private void make(String line, Matcher call) throws IllegalAccessException {
        shown.add(call.group(3));
        Object answer = answer(tills.get(call.group(2)), call.group(3), call.group(4));
        Check.due(line, told(answer), call.group(5));
        if (call.group(1) != null && answer instanceof Integer number) {
            numbers.put(call.group(1), number);
        }
    }

    /** An answer as README.md writes it. */
    private static String told(Object answer) {
        if (answer instanceof Character) {
            return "'" + answer + "'";
        }
        return answer instanceof Float ? answer + "f" : answer.toString();
    }

    /** The answer of a call, or the name of the exception that it throws. */
    private Object answer(BasketOffers till, String name, String told) throws IllegalAccessException {
        for (Method method : BasketOffers.class.getDeclaredMethods()) {
            if (Modifier.isPublic(method.getModifiers()) && method.getName().equals(name)) {
                try {
                    return method.invoke(till, arguments(told));
                } catch (InvocationTargetException e) {
                    return "throws " + e.getCause().getClass().getSimpleName();
                }
            }
        }
        return "no such method";
    }

    private Object[] arguments(String told) {
        return told.isEmpty() ? new Object[0] : Stream.of(told.split(", ")).map(this::number).toArray();
    }

    private Integer number(String told) {
        return numbers.containsKey(told) ? numbers.get(told) : Integer.valueOf(told);
    }

    private static void namesAllTests(List<String> lines) throws IOException {
        TreeSet<String> named = new TreeSet<>();
        for (String line : lines) {
            Matcher row = TEST_ROW.matcher(line);
            if (row.matches()) {
                named.add(row.group(1));
            }
        }
        TreeSet<String> there = new TreeSet<>();
        try (Stream<Path> files = Files.list(Path.of("src/test/java"))) {
            files.map(file -> file.getFileName().toString()).filter(name -> name.endsWith("Test.java"))
                    .forEach(name -> there.add(name.substring(0, name.length() - ".java".length())));
        }
        Check.due("the tests that are named", named, there);
    }
}
