import java.io.IOException;
import java.lang.reflect.Method;
import java.nio.file.Files;
import java.nio.file.Path;
import java.util.Set;
import java.util.TreeSet;
import java.util.regex.Matcher;
import java.util.regex.Pattern;

/** The calls in README.md answer what stands behind them, and README.md names every call and test. */
public final class ReadmeTest {
    private static final Pattern BLOCK = Pattern.compile("(?s)```java\n(.*?)```");
    private static final Pattern MADE = Pattern.compile("ToastBelt x = new ToastBelt\\(\\);");
    private static final Pattern WRITTEN = Pattern.compile(
        "for \\(char letter : \"([^\"]*)\"\\.toCharArray\\(\\)\\) \\{ x\\.write\\(letter\\); \\}");
    private static final Pattern CALL = Pattern.compile("x\\.(\\w+)\\(([-0-9, ]*)\\);\\s*// (-?\\d+|BAD|NO|FULL|NONE)(:.*)?");

    private static int wrong = 0;
    private static int calls = 0;

    private static void fault(String what) {
        wrong++;
        System.out.println(what);
    }

    private static int number(String told) throws ReflectiveOperationException {
        return told.matches("-?\\d+") ? Integer.parseInt(told) : ToastBelt.class.getField(told).getInt(null);
    }

    private static int answer(ToastBelt x, String name, String numbers) throws ReflectiveOperationException {
        String[] told = numbers.isBlank() ? new String[0] : numbers.split(", ");
        Class<?>[] types = new Class<?>[told.length];
        Object[] given = new Object[told.length];
        for (int i = 0; i < told.length; i++) {
            types[i] = int.class;
            given[i] = Integer.valueOf(told[i]);
        }
        return (Integer) ToastBelt.class.getMethod(name, types).invoke(x, given);
    }

    private static void runBlock(String block) throws ReflectiveOperationException {
        ToastBelt x = null;
        for (String line : block.split("\n")) {
            Matcher written = WRITTEN.matcher(line);
            Matcher call = CALL.matcher(line);
            if (MADE.matcher(line).matches()) {
                x = new ToastBelt();
            } else if (written.matches()) {
                for (char letter : written.group(1).toCharArray()) {
                    x.write(letter);
                }
            } else if (call.matches()) {
                int got = answer(x, call.group(1), call.group(2));
                calls++;
                if (got != number(call.group(3))) {
                    fault("README.md: " + line + " -- answered " + got);
                }
            } else {
                fault("README.md: not understood: " + line);
            }
        }
    }

    private static void named(String page) throws IOException {
        Set<String> names = new TreeSet<>();
        for (Method m : ToastBelt.class.getMethods()) {
            if (m.getDeclaringClass() == ToastBelt.class) {
                names.add(m.getName());
            }
        }
        try (var files = Files.list(Path.of("src/test/java"))) {
            files.forEach(f -> names.add(f.getFileName().toString().replace(".java", "")));
        }
        for (String name : names) {
            if (!page.contains("`" + name + "`")) {
                fault("README.md does not name " + name);
            }
        }
    }

    public static void main(String[] args) throws IOException, ReflectiveOperationException {
        String page = Files.readString(Path.of("README.md"));
        Matcher block = BLOCK.matcher(page);
        while (block.find()) {
            runBlock(block.group(1));
        }
        if (calls == 0) {
            fault("README.md has no call with its answer");
        }
        named(page);
        System.out.println(wrong == 0 ? calls + " calls of README.md are as it says" : wrong + " things are not so");
        if (wrong != 0) {
            System.exit(1);
        }
    }
}
