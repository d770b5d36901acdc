import java.io.IOException;
import java.lang.reflect.Method;
import java.lang.reflect.Modifier;
import java.nio.file.Files;
import java.nio.file.Path;
import java.util.ArrayList;
import java.util.List;
import java.util.TreeSet;
import java.util.regex.Matcher;
import java.util.regex.Pattern;

/** The example in README.md: each of its calls, read from there, gives the answer that stands behind it. */
public final class PairScalesReadme extends EdgeTest {
    private static final Path README = Path.of("README.md");
    private static final Pattern EXAMPLE = Pattern.compile("```java\\R(.*?)```", Pattern.DOTALL);
    private static final Pattern MAKING = Pattern.compile("PairScales x = new PairScales\\((-?\\d+)\\);");
    private static final Pattern CALL =
        Pattern.compile("x\\.(\\w+)\\(([-\\d, ]*)\\);\\s*// (true|false|NONE|-?\\d+)(?:: .*)?");

    private static List<String> exampleLines() throws IOException {
        List<String> lines = new ArrayList<>();
        Matcher example = EXAMPLE.matcher(Files.readString(README));
        while (example.find()) {
            example.group(1).lines().filter(line -> !line.isBlank()).forEach(lines::add);
        }
        return lines;
    }

    private static TreeSet<String> publicMethods() {
        TreeSet<String> names = new TreeSet<>();
        for (Method method : PairScales.class.getDeclaredMethods()) {
            if (Modifier.isPublic(method.getModifiers())) {
                names.add(method.getName());
            }
        }
        return names;
    }

    private static Object answer(PairScales x, String name, String listed) throws ReflectiveOperationException {
        String[] texts = listed.isBlank() ? new String[0] : listed.split(", *");
        Class<?>[] types = new Class<?>[texts.length];
        Object[] numbers = new Object[texts.length];
        for (int k = 0; k < texts.length; k++) {
            types[k] = int.class;
            numbers[k] = Integer.valueOf(texts[k]);
        }
        return PairScales.class.getMethod(name, types).invoke(x, numbers);
    }

    public static void main(String[] args) throws IOException, ReflectiveOperationException {
        sentence("README.md");
        PairScales x = null;
        TreeSet<String> shown = new TreeSet<>();
        for (String line : exampleLines()) {
            Matcher making = MAKING.matcher(line);
            Matcher call = CALL.matcher(line);
            if (making.matches()) {
                x = new PairScales(Integer.parseInt(making.group(1)));
            } else if (x != null && call.matches()) {
                String want = call.group(3).equals("NONE") ? Integer.toString(NONE) : call.group(3);
                due(line, answer(x, call.group(1), call.group(2)).toString(), want);
                shown.add(call.group(1));
            } else {
                due(line, "no call with an answer behind it", "one");
            }
        }
        due("the methods in the example", shown.toString(), publicMethods().toString());
        end();
    }
}
