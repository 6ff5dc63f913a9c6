import java.io.IOException;
import java.lang.reflect.Method;
import java.nio.file.Files;
import java.nio.file.Path;
import java.util.HashSet;
import java.util.Set;
import java.util.regex.Matcher;
import java.util.regex.Pattern;

/** README.md: each call of its example answers what stands behind it, and each test is named. */
public final class ReadmeTest {
    private static final Due due = new Due("ReadmeTest");

    public static void main(String[] args) throws IOException, ReflectiveOperationException {
        String readme = Files.readString(Path.of("README.md"));
        example(readme);
        tests(readme);
        due.end();
    }

    private static void example(String readme) throws ReflectiveOperationException {
        PromisedFish quay = new PromisedFish();
        Set<String> lines = new HashSet<>();
        Pattern line = Pattern.compile("(?m)^quay\\.(\\w+)\\((.*)\\); +// (-?\\d+)\\b");
        for (Matcher m = line.matcher(readme); m.find(); ) {
            due.is(m.group(1) + "(" + m.group(2) + ")", ask(quay, m.group(1), m.group(2)), Integer.parseInt(m.group(3)));
            lines.add(m.group());
        }
        due.is("it has an example", lines.size() >= 20 ? 1 : 0, 1);
        due.is("lines of it that are not read", readme.split("\nquay\\.").length - 1 - lines.size(), 0);
    }

    private static int ask(PromisedFish quay, String name, String row) throws ReflectiveOperationException {
        String[] texts = row.isEmpty() ? new String[0] : row.split(", ");
        for (Method m : PromisedFish.class.getMethods()) {
            if (m.getName().equals(name) && m.getParameterCount() == texts.length) {
                Object[] values = new Object[texts.length];
                for (int i = 0; i < values.length; i++) {
                    boolean isLong = m.getParameterTypes()[i] == long.class;
                    values[i] = isLong ? (Object) Long.decode(texts[i].replace("L", "")) : (Object) Integer.decode(texts[i]);
                }
                return (int) m.invoke(quay, values);
            }
        }
        due.is("there is no " + name + "(" + row + ")", 1, 0);
        return 0;
    }

    private static void tests(String readme) throws IOException {
        try (var files = Files.list(Path.of("src/test/java"))) {
            files.map(file -> file.getFileName().toString().replace(".java", "")).filter(name -> name.endsWith("Test"))
                .forEach(name -> due.is(name + " is named", readme.contains("`" + name + "`") ? 1 : 0, 1));
        }
    }
}
