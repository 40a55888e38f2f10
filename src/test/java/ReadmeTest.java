import java.io.IOException;
import java.lang.reflect.Method;
import java.lang.reflect.Modifier;
import java.nio.file.Files;
import java.nio.file.Path;
import java.util.Set;
import java.util.TreeSet;
import java.util.regex.Matcher;
import java.util.regex.Pattern;
import java.util.stream.Stream;

/** What README.md tells holds: its examples answer as they say, and it names every call and every test. */
public final class ReadmeTest {
    private static final Bench BENCH = new Bench("ReadmeTest");
    private static final Pattern EXAMPLE = Pattern.compile("(?s)```java\n(.*?)```");
    private static final Pattern CALL = Pattern.compile("x\\.(\\w+)\\(([^)]*)\\);\\s+// -> (-?\\d+)( .*)?");

    public static void main(String[] args) throws Exception {
        String text = Files.readString(Path.of("README.md"));
        Matcher example = EXAMPLE.matcher(text);
        int examples = 0;
        while (example.find()) {
            answersAsTold(example.group(1).split("\n"));
            examples++;
        }
        BENCH.due("examples", examples, 3);
        namesEveryCall(text);
        namesEveryTest(text);
        BENCH.ends();
    }

    private static void answersAsTold(String[] lines) throws ReflectiveOperationException {
        BENCH.due("an example begins", lines[0], "BeamHouse x = new BeamHouse();");
        BeamHouse x = new BeamHouse();
        for (int i = 1; i < lines.length; i++) {
            Matcher call = CALL.matcher(lines[i]);
            BENCH.due("\"" + lines[i] + "\" is a call with its answer", call.matches() ? 1 : 0, 1);
            if (call.matches()) {
                BENCH.due(lines[i], answer(x, call.group(1), call.group(2).split(", ")), call.group(3));
            }
        }
    }

    private static String answer(BeamHouse x, String name, String[] words) throws ReflectiveOperationException {
        for (Method method : BeamHouse.class.getDeclaredMethods()) {
            Class<?>[] types = method.getParameterTypes();
            if (Modifier.isPublic(method.getModifiers()) && method.getName().equals(name) && types.length == words.length) {
                Object[] numbers = new Object[words.length];
                for (int i = 0; i < words.length; i++) {
                    numbers[i] = types[i] == long.class ? (Object) Long.valueOf(words[i].replace("L", "")) : Integer.valueOf(words[i]);
                }
                return method.invoke(x, numbers).toString();
            }
        }
        return "no such call";
    }

    private static void namesEveryCall(String text) {
        Set<String> named = found(Pattern.compile("`(\\w+)\\("), text.substring(text.indexOf("| call |"), text.indexOf("## Tests")));
        Set<String> face = new TreeSet<>();
        for (Method method : BeamHouse.class.getDeclaredMethods()) {
            if (Modifier.isPublic(method.getModifiers())) {
                face.add(method.getName());
            }
        }
        BENCH.due("the calls", named.toString(), face.toString());
    }

    private static void namesEveryTest(String text) throws IOException {
        Set<String> tests = new TreeSet<>();
        try (Stream<Path> files = Files.list(Path.of("src/test/java"))) {
            files.map(file -> file.getFileName().toString()).filter(file -> file.endsWith("Test.java"))
                .forEach(file -> tests.add(file.replace(".java", "")));
        }
        BENCH.due("the tests", found(Pattern.compile("(?m)^\\| `(\\w+Test)` \\|"), text).toString(), tests.toString());
    }

    private static Set<String> found(Pattern pattern, String text) {
        Set<String> found = new TreeSet<>();
        Matcher one = pattern.matcher(text);
        while (one.find()) {
            found.add(one.group(1));
        }
        return found;
    }
}
