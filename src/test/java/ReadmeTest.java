import java.io.IOException;
import java.lang.reflect.Method;
import java.nio.file.Files;
import java.nio.file.Path;
import java.util.List;
import java.util.regex.Matcher;
import java.util.regex.Pattern;
import java.util.stream.Stream;

/** README.md tells what is so: its example is done call by call, and each call and each test is named in it. */
public final class ReadmeTest {
    private static final Path README = Path.of("README.md");
    private static final Path SOURCE = Path.of("src/main/java/DishHouse.java");
    private static final Path TESTS = Path.of("src/test/java");
    /** A call on the house, and the number that the remark behind it begins with, if there is one. */
    private static final Pattern CALL = Pattern.compile(
            "(?:\\w+ \\w+ = )?house\\.(\\w+)\\(([-\\d, ]*)\\);\\s*(?://\\s*(?:(-?\\d+)(?::.*)?|.*))?");
    private static int wrong;

    public static void main(String[] args) throws Exception {
        String readme = Files.readString(README);
        example(readme);
        calls(readme);
        constants(readme);
        tests(readme);
        System.out.println(wrong == 0 ? "ReadmeTest: all as due" : "ReadmeTest: " + wrong + " wrong");
        if (wrong != 0) System.exit(1);
    }

    private static void due(boolean holds, String what) {
        if (holds) return;
        wrong++;
        System.out.println("ReadmeTest: " + what);
    }

    private static void example(String readme) throws Exception {
        int from = readme.indexOf("```java\n") + "```java\n".length();
        String block = readme.substring(from, readme.indexOf("```", from));
        DishHouse house = new DishHouse();
        int numbers = 0;
        for (String line : block.split("\n")) {
            if (line.isBlank() || line.equals("DishHouse house = new DishHouse();")) continue;
            Matcher m = CALL.matcher(line);
            if (!m.matches()) {
                due(false, "no call in: " + line);
                continue;
            }
            long answer = ask(house, m.group(1), m.group(2));
            due(answer >= 0, line + " is refused: " + answer);
            if (m.group(3) == null) continue;
            numbers++;
            due(answer == Long.parseLong(m.group(3)), line + " answered " + answer);
        }
        due(numbers >= 4, "the example tells too few answers");
    }

    private static long ask(DishHouse house, String call, String numbers) throws Exception {
        String[] texts = numbers.isBlank() ? new String[0] : numbers.split(", *");
        Object[] args = new Object[texts.length];
        for (int n = 0; n < args.length; n++) args[n] = Integer.valueOf(texts[n].trim());
        for (Method m : DishHouse.class.getDeclaredMethods()) {
            if (m.getName().equals(call) && m.getParameterCount() == args.length) {
                return ((Number) m.invoke(house, args)).longValue();
            }
        }
        due(false, "no call " + call + " of " + args.length + " numbers");
        return 0;
    }

    private static void calls(String readme) throws IOException {
        Matcher m = Pattern.compile("public (?:int|long) (\\w+)\\(([^)]*)\\)").matcher(Files.readString(SOURCE));
        int calls = 0;
        while (m.find()) {
            String told = m.group(1) + "(" + m.group(2).replace("int ", "") + ")";
            due(readme.contains("| `" + told + "` |"), told + " is not in the table of calls");
            calls++;
        }
        due(calls == 31, "the class has " + calls + " calls");
    }

    private static void constants(String readme) {
        for (String told : List.of("`NONE` (-1)", "`BAD` (-2)", "`FULL` (-3)", "`NOT` (-4)")) {
            due(readme.contains(told), told + " is not told");
        }
    }

    private static void tests(String readme) throws IOException {
        try (Stream<Path> files = Files.list(TESTS)) {
            for (Path p : files.toList()) {
                String name = p.getFileName().toString();
                if (name.endsWith(".java")) due(readme.contains(name), name + " is not named");
            }
        }
    }
}
