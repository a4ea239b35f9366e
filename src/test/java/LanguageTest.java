import java.io.IOException;
import java.nio.file.Files;
import java.nio.file.Path;
import java.util.ArrayList;
import java.util.LinkedHashMap;
import java.util.List;
import java.util.Map;
import java.util.regex.Matcher;
import java.util.regex.Pattern;

/**
 * Those rules of ../shared/LANGUAGE.md that the program's text shows. It is run from the project's folder, as
 * .ci/run does, and knows the language only as far as the program uses it.
 */
public final class LanguageTest {
    private static final Path PROGRAM = Path.of("src/main/java/ReaperWages.java");
    private static final Pattern METHOD =
            Pattern.compile("(?:public|private)(?: static)? \\w+(?:\\[\\])? (\\w+)\\(([^)]*)\\)[^;{]*\\{");
    private static final Pattern CALL = Pattern.compile("(?<!new )\\b(Math\\.)?(\\w+)\\(");
    private static final Pattern THROW = Pattern.compile("\\bthrow\\b(.*)");
    private static final Pattern TEXT = Pattern.compile("\"[^\"]*\"");

    /** What no line may hold, with the rule that rules it out. */
    private static final String[][] RULED_OUT = {
        {"\\bpackage\\b", "the head: without a package line"},
        {"\\bprotected\\b", "1: no protected member"},
        {"->|::", "2: no lambda, no method reference"},
        {"\\bimport\\b|\\bjava\\.", "4: the library that is listed"},
        {"\\bSystem\\.(?!arraycopy)", "4: of System, arraycopy alone"},
        {"\\b(Math|Integer|Long)\\.(?!compare\\(|max\\(|min\\(|abs\\(|bitCount\\(|floorDiv\\(|floorMod\\()", "4: functions of Math"},
        {"\\bstatic (?!final\\b)[^(]*[;=]", "5: static fields are final"},
        {"^ *static \\{", "5: no static initialiser block"},
        {"\\b(try|catch|finally|synchronized|assert)\\b", "6: nothing here throws that is caught here"},
        {"\\b(equals|hashCode|toString|instanceof)\\b", "6: nothing here is compared so"},
        {"\\bwhile\\b|\\bdo\\b|for \\(;", "9: every loop here is counted"},
        {"\" *\\+|\\+ *\"", "10: texts are not joined by +"},
    };

    private static int wrong = 0;

    public static void main(String[] args) throws IOException {
        String program = withoutComments(Files.readString(PROGRAM));
        for (String line : program.split("\n")) {
            checkLine(line);
        }
        checkMethods(program);
        System.out.println(wrong == 0 ? "the rules of the language hold" : wrong + " rules are broken");
        if (wrong != 0) {
            System.exit(1);
        }
    }

    private static String withoutComments(String text) {
        return text.replaceAll("(?s)/\\*.*?\\*/", "").replaceAll("//[^\n]*", "");
    }

    private static void checkLine(String line) {
        String code = TEXT.matcher(line).replaceAll("\"\"");
        for (String[] rule : RULED_OUT) {
            check(line + " breaks " + rule[1], !Pattern.compile(rule[0]).matcher(code).find());
        }
        Matcher thrown = THROW.matcher(code);
        if (thrown.find()) {
            check(line + " breaks 6: throw new E(\"a written text\")", thrown.group(1).matches(
                    " new (IllegalState|IllegalArgument|IndexOutOfBounds)Exception\\(\"\"\\);"));
        }
        check("signs 1 to 126 in " + line, line.chars().allMatch(c -> c > 0 && c < 127));
    }

    private static void checkMethods(String program) {
        Map<String, List<String>> calls = new LinkedHashMap<>();
        Matcher method = METHOD.matcher(program);
        while (method.find()) {
            String name = method.group(1);
            String body = bodyFrom(program, method.end());
            check("the name " + name + " stands once", !calls.containsKey(name));
            check("11: at most seven parameters of " + name, method.group(2).split(",").length <= 7);
            check("11: at most sixty lines of " + name, body.split("\n").length <= 60);
            calls.put(name, callsIn(body));
        }
        check("the methods were found", calls.size() > 19);
        for (String name : calls.keySet()) {
            List<String> deepest = deepest(name, calls, 0);
            check("11: at most eight deep, but " + deepest, deepest.size() <= 8);
        }
    }

    private static String bodyFrom(String program, int start) {
        int open = 1;
        int at = start;
        while (open > 0) {
            char sign = program.charAt(at++);
            open += sign == '{' ? 1 : sign == '}' ? -1 : 0;
        }
        return program.substring(start, at);
    }

    private static List<String> callsIn(String body) {
        List<String> names = new ArrayList<>();
        Matcher call = CALL.matcher(body);
        while (call.find()) {
            names.add((call.group(1) == null ? "" : "Math.") + call.group(2));
        }
        return names;
    }

    /** The longest chain of calls from a method on, itself and the library's function at its end counted too. */
    private static List<String> deepest(String name, Map<String, List<String>> calls, int depth) {
        List<String> longest = new ArrayList<>();
        // A chain that comes back to itself would never end; this long it fails the test all the same.
        if (depth < 20) {
            for (String next : calls.getOrDefault(name, List.of())) {
                if (next.startsWith("Math.") || calls.containsKey(next)) {
                    List<String> chain = deepest(next, calls, depth + 1);
                    longest = chain.size() > longest.size() ? chain : longest;
                }
            }
        }
        longest.add(0, name);
        return longest;
    }

    private static void check(String what, boolean holds) {
        if (!holds) {
            wrong++;
            System.out.println("not so: " + what);
        }
    }
}
