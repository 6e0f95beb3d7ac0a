import java.io.IOException;
import java.lang.reflect.Method;
import java.lang.reflect.Modifier;
import java.nio.file.Files;
import java.nio.file.Path;
import java.util.Arrays;
import java.util.List;
import java.util.regex.Matcher;
import java.util.regex.Pattern;
import java.util.stream.Stream;

/** README.md: its examples answer what they say, and it names every call and every test. */
public final class ReadmeTest {
    private static final Pattern BLOCK = Pattern.compile("(?s)```java\\n(.*?)```");
    private static final Pattern MADE = Pattern.compile("HeardSlots x = new HeardSlots\\(\\);");
    private static final Pattern WRITTEN = Pattern.compile(
        "for \\(char c : \"([^\"]*)\"\\.toCharArray\\(\\)\\) x\\.write\\(c\\);");
    private static final Pattern CALLED = Pattern.compile(
        "x\\.(\\w+)\\(([-0-9, ]*)\\); +// (-?\\d+|BAD|NO|FULL|NONE): .*");

    private HeardSlots x = new HeardSlots();

    private ReadmeTest() {
    }

    public static void main(String[] args) throws Exception {
        String page = Files.readString(Path.of("README.md"));
        examplesAnswerAsTheySay(page);
        everyCallIsNamed(page);
        everyTestIsNamed(page);
        Check.finish("ReadmeTest");
    }

    private static void yes(String what, boolean is) {
        Check.due(what, is ? 1 : 0, 1);
    }

    private static void examplesAnswerAsTheySay(String page) throws Exception {
        int blocks = 0;
        Matcher m = BLOCK.matcher(page);
        while (m.find()) {
            blocks++;
            ReadmeTest reader = new ReadmeTest();
            for (String line : m.group(1).split("\\n")) {
                reader.follow(line);
            }
        }
        yes("there are examples", blocks > 0);
    }

    private void follow(String line) throws Exception {
        Matcher written = WRITTEN.matcher(line);
        Matcher called = CALLED.matcher(line);
        if (MADE.matcher(line).matches()) {
            x = new HeardSlots();
        } else if (written.matches()) {
            for (char c : written.group(1).toCharArray()) {
                x.write(c);
            }
        } else if (called.matches()) {
            Check.due("README.md: " + line, answerOf(called.group(1), called.group(2)), numberOf(called.group(3)));
        } else {
            yes("README.md, a line that is no example: " + line, false);
        }
    }

    private int answerOf(String name, String told) throws Exception {
        Object[] numbers = Arrays.stream(told.split(", *")).filter(s -> !s.isEmpty()).map(Integer::valueOf).toArray();
        Class<?>[] kinds = new Class<?>[numbers.length];
        Arrays.fill(kinds, int.class);
        return (int) HeardSlots.class.getMethod(name, kinds).invoke(x, numbers);
    }

    private static int numberOf(String told) {
        switch (told) {
            case "BAD": return HeardSlots.BAD;
            case "NO": return HeardSlots.NO;
            case "FULL": return HeardSlots.FULL;
            case "NONE": return HeardSlots.NONE;
            default: return Integer.parseInt(told);
        }
    }

    private static void everyCallIsNamed(String page) {
        for (Method m : HeardSlots.class.getDeclaredMethods()) {
            if (Modifier.isPublic(m.getModifiers())) {
                int numbers = m.getParameterCount();
                String inside = numbers == 0 ? "" : "\\w+" + ", \\w+".repeat(numbers - 1);
                Pattern row = Pattern.compile("(?m)^\\| `" + m.getName() + "\\(" + inside + "\\)`");
                yes("README.md has a row for " + m.getName(), row.matcher(page).find());
            }
        }
    }

    private static void everyTestIsNamed(String page) throws IOException {
        try (Stream<Path> files = Files.list(Path.of("src/test/java"))) {
            List<String> names = files.map(f -> f.getFileName().toString()).filter(f -> f.endsWith("Test.java"))
                .map(f -> f.substring(0, f.length() - ".java".length())).sorted().toList();
            yes("there are tests", !names.isEmpty());
            for (String name : names) {
                yes("README.md names " + name, page.contains("`" + name + "`: "));
            }
        }
    }
}
