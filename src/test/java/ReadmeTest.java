import java.lang.reflect.Method;
import java.nio.file.Files;
import java.nio.file.Path;
import java.util.List;
import java.util.regex.Matcher;
import java.util.regex.Pattern;
import java.util.stream.Stream;

/** README.md: its examples answer as it says, each call and answer is told, and so is each test. */
public final class ReadmeTest {
    private static final Pattern EXAMPLE = Pattern.compile("^x\\.(\\w+\\([^)]*\\)); +// (-?\\d+)\\b.*$");
    private static final Pattern CODE = Pattern.compile("`([a-z]\\w*)\\(([^)`]*)\\)`");
    private static final List<String> ANSWERS = List.of("`NONE` (-1)", "`BAD` (-2)", "`STATE` (-3)", "`FULL` (-4)",
        "`OVER` (-6)", "`NO`");

    public static void main(String[] args) throws Exception {
        if (args.length < 1) {
            System.out.println("the path of the source is missing");
            System.exit(1);
        }
        Path root = Path.of(args[0]).toAbsolutePath().resolve("../../../..").normalize();
        String readme = Files.readString(root.resolve("README.md"));
        examples(readme);
        calls(readme.substring(readme.indexOf("### The calls"), readme.indexOf("### What is refused")));
        for (String answer : ANSWERS) {
            Check.due("README.md tells " + answer, readme.contains(answer) ? 1 : 0, 1);
        }
        tests(readme, root.resolve("src/test/java"));
        Check.end();
    }

    private static void examples(String readme) {
        Stage stage = new Stage();
        boolean within = false;
        int looked = 0;
        for (String line : readme.split("\n")) {
            if (line.startsWith("```")) {
                within = line.equals("```java");
            } else if (within && line.equals("PartnerWorth x = new PartnerWorth();")) {
                stage = new Stage();
            } else if (within) {
                Matcher m = EXAMPLE.matcher(line);
                boolean told = m.matches();
                Check.due("an example tells its answer: " + line, told ? 1 : 0, 1);
                if (told) {
                    Check.due("README.md: " + line, stage.call(m.group(1)), Long.parseLong(m.group(2)));
                    looked++;
                }
            }
        }
        Check.due("examples were found", looked > 20 ? 1 : 0, 1);
    }

    /** Each call of the class is told once with as many numbers as it takes, and no other is. */
    private static void calls(String section) {
        Matcher m = CODE.matcher(section);
        int told = 0;
        while (m.find()) {
            told++;
            int numbers = m.group(2).isEmpty() ? 0 : m.group(2).split(",").length;
            boolean there = false;
            for (Method call : PartnerWorth.class.getDeclaredMethods()) {
                there |= call.getName().equals(m.group(1)) && call.getParameterCount() == numbers;
            }
            Check.due("there is such a call: " + m.group(), there ? 1 : 0, 1);
        }
        int calls = 0;
        for (Method call : PartnerWorth.class.getDeclaredMethods()) {
            if (java.lang.reflect.Modifier.isPublic(call.getModifiers())) {
                calls++;
                boolean named = section.contains("`" + call.getName() + "(");
                Check.due("README.md tells " + call.getName(), named ? 1 : 0, 1);
            }
        }
        Check.due("calls told", told, calls);
    }

    private static void tests(String readme, Path folder) throws Exception {
        try (Stream<Path> files = Files.list(folder)) {
            for (Path file : files.toList()) {
                String name = file.getFileName().toString().replace(".java", "");
                if (name.endsWith("Test") || name.endsWith("Bounds")) {
                    Check.due("README.md tells " + name, readme.contains("`" + name + "`") ? 1 : 0, 1);
                }
            }
        }
    }
}
