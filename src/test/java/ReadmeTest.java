import java.io.IOException;
import java.lang.reflect.Field;
import java.lang.reflect.Method;
import java.lang.reflect.Modifier;
import java.nio.charset.StandardCharsets;
import java.nio.file.Files;
import java.nio.file.Path;
import java.util.List;
import java.util.Set;
import java.util.TreeSet;
import java.util.regex.Matcher;
import java.util.regex.Pattern;
import java.util.stream.Collectors;
import java.util.stream.Stream;

/** README.md says how to use the class and how to run its tests, and what it says is so. */
public final class ReadmeTest {
    private static final Path PAGE = Path.of("README.md");
    private static final Path TESTS = Path.of("src/test/java");
    private static final String NEW = "LanternLogic x = new LanternLogic();";
    private static final Pattern CALL = Pattern.compile("x\\.(\\w+)\\(([^)]*)\\); +// (-?\\d+|[A-Z]+): .+");
    private static final Pattern LINE = Pattern.compile("the line is \"([^\"]*)\"");
    private static final Pattern TEXT =
        Pattern.compile("for \\(char sign : \"([^\"]*)\"\\.toCharArray\\(\\)\\) \\{ x\\.append\\(sign\\); \\}");
    private static final Pattern NAME = Pattern.compile("`(\\w+)`");
    private static final Pattern TEST_ROW = Pattern.compile("\\| (\\w+Test) \\|.*");
    private static final Pattern FILE = Pattern.compile("(?<![\\w/.])(?:src|\\.ci)(?:/\\w+)+(?:\\.\\w+)?");

    private static final Due due = new Due();

    private LanternLogic x;
    private int answers;

    public static void main(String[] args) throws Exception {
        List<String> lines = Files.readAllLines(PAGE, StandardCharsets.UTF_8);
        new ReadmeTest().examples(lines);
        names(String.join("\n", lines));
        tests(lines);
        files(String.join("\n", lines));
        due.end("ReadmeTest");
    }

    private void examples(List<String> lines) throws Exception {
        due.part("README.md, examples");
        boolean isCode = false;
        for (String line : lines) {
            if (line.startsWith("```")) {
                isCode = line.equals("```java");
            } else if (isCode) {
                example(line);
            }
        }
        due.isTrue("that there are examples", answers >= 30);
    }

    private void example(String line) throws Exception {
        Matcher call = CALL.matcher(line);
        Matcher text = TEXT.matcher(line);
        if (line.equals(NEW)) {
            x = new LanternLogic();
        } else if (text.matches()) {
            Help.write(x, text.group(1));
        } else if (call.matches()) {
            due.is(line, answer(call.group(1), call.group(2)), number(call.group(3)));
            answers++;
            Matcher told = LINE.matcher(line);
            if (told.find()) {
                due.isText(line, Help.line(x, told.group(1).length()), told.group(1));
            }
        } else {
            due.fail("what is said can't be looked at: " + line);
        }
    }

    private int answer(String name, String parameters) throws Exception {
        Method method = Stream.of(LanternLogic.class.getMethods())
            .filter(each -> each.getName().equals(name)).findFirst().orElseThrow();
        String[] told = parameters.isEmpty() ? new String[0] : parameters.split(", ");
        Object[] given = new Object[told.length];
        for (int i = 0; i < told.length; i++) {
            boolean isNumber = method.getParameterTypes()[i] == int.class;
            given[i] = isNumber ? (Object) Integer.valueOf(told[i]) : (Object) Boolean.valueOf(told[i]);
        }
        return (Integer) method.invoke(x, given);
    }

    private static int number(String told) throws Exception {
        return Character.isUpperCase(told.charAt(0)) ? LanternLogic.class.getField(told).getInt(null)
            : Integer.parseInt(told);
    }

    private static void names(String page) {
        due.part("README.md, names");
        Set<String> face = new TreeSet<>();
        for (Method method : LanternLogic.class.getDeclaredMethods()) {
            if (Modifier.isPublic(method.getModifiers())) {
                face.add(method.getName());
            }
        }
        for (Field field : LanternLogic.class.getFields()) {
            face.add(field.getName());
        }
        Set<String> told = new TreeSet<>();
        Matcher matcher = NAME.matcher(page);
        while (matcher.find()) {
            told.add(matcher.group(1));
        }
        told.removeAll(Set.of("build", "javac", "java"));
        due.isText("calls and constants", told.toString(), face.toString());
    }

    private static void tests(List<String> lines) throws IOException {
        due.part("README.md, tests");
        Set<String> told = new TreeSet<>();
        for (String line : lines) {
            Matcher row = TEST_ROW.matcher(line);
            if (row.matches()) {
                told.add(row.group(1) + ".java");
            }
        }
        try (Stream<Path> files = Files.list(TESTS)) {
            Set<String> there = files.map(file -> file.getFileName().toString())
                .filter(name -> name.endsWith("Test.java")).collect(Collectors.toCollection(TreeSet::new));
            due.isText("tests", told.toString(), there.toString());
        }
    }

    private static void files(String page) {
        due.part("README.md, files");
        int found = 0;
        Matcher matcher = FILE.matcher(page);
        while (matcher.find()) {
            due.isTrue("that there is " + matcher.group(), Files.exists(Path.of(matcher.group())));
            found++;
        }
        due.isTrue("that files are named", found >= 4);
    }
}
