import java.nio.charset.StandardCharsets;
import java.nio.file.Files;
import java.nio.file.Path;
import java.util.List;
import java.util.regex.Matcher;
import java.util.regex.Pattern;

/** Those rules of LANGUAGE.md that can be seen in the lines of the class. */
public final class RulesTest {
    private static final Path SOURCE = Path.of("src/main/java/LanternLogic.java");
    private static final int LONGEST_METHOD = 60;
    private static final int MOST_PARAMETERS = 7;
    private static final String[] FORBIDDEN = {
        "->", "::", "\\btry\\b", "\\bcatch\\b", "\\bfinally\\b", "\\bthrow\\b", "\\bthrows\\b", "\\bsynchronized\\b",
        "\\bassert\\b", "\\bpackage\\b", "\\bprotected\\b", "\\binstanceof\\b", "\\bvar\\b", "\\bObject\\b",
        "\\bSystem\\.(?!arraycopy\\()", "\\bMath\\.(?!min\\(|max\\()", "\\bInteger\\.(?!bitCount\\()",
        "\\bArrays\\.(?!fill\\()", "^import (?!java\\.util\\.Arrays;)", "\" \\+|\\+ \"", "\\bwhile \\(true\\)", "for \\(;;"};
    private static final Pattern METHOD = Pattern.compile(
        "( +)(?:public |private |static )*[a-zA-Z\\[\\]]+ ?[a-zA-Z]*\\(([^()]*)\\) \\{");

    private static final Due due = new Due();

    public static void main(String[] args) throws Exception {
        List<String> lines = Files.readAllLines(SOURCE, StandardCharsets.US_ASCII);
        words(lines);
        methods(lines);
        due.end("RulesTest");
    }

    private static void words(List<String> lines) {
        due.part("words");
        for (String forbidden : FORBIDDEN) {
            Pattern pattern = Pattern.compile(forbidden);
            for (String line : lines) {
                due.isTrue("that '" + forbidden + "' stands not in: " + line, !pattern.matcher(code(line)).find());
            }
        }
    }

    private static String code(String line) {
        String bare = line.strip();
        return bare.startsWith("//") || bare.startsWith("*") || bare.startsWith("/*") ? "" : line;
    }

    private static void methods(List<String> lines) {
        due.part("methods");
        int found = 0;
        for (int i = 0; i < lines.size(); i++) {
            Matcher matcher = METHOD.matcher(lines.get(i));
            if (matcher.matches() && !lines.get(i).matches(" +(if|for|while|switch) .*")) {
                int end = i;
                while (!lines.get(end).equals(matcher.group(1) + "}")) {
                    end++;
                }
                due.isTrue("a short method: " + lines.get(i), end - i + 1 <= LONGEST_METHOD);
                due.isTrue("few parameters: " + lines.get(i), matcher.group(2).split(",").length <= MOST_PARAMETERS);
                found++;
            }
        }
        due.isTrue("methods are found", found > 100);
    }
}
