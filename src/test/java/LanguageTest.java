import java.io.IOException;
import java.nio.charset.StandardCharsets;
import java.nio.file.Files;
import java.nio.file.Path;
import java.util.ArrayList;
import java.util.List;
import java.util.regex.Matcher;
import java.util.regex.Pattern;

/**
 * What of LANGUAGE.md can be seen in the lines of the class: words that it rules out, how long
 * methods are, how many fields and classes there are, where objects are made. FaceTest looks at members.
 */
public final class LanguageTest {
    private static final Path SOURCE = Path.of("src", "main", "java", "WellCourt.java");
    private static final int MOST_LINES = 60;
    private static final int MOST_CLASSES = 12;
    private static final int MOST_FIELDS = 20;
    private static final String[] RULED_OUT = {
        "->", "::", "\\btry\\b", "\\bcatch\\b", "\\bfinally\\b", "\\bsynchronized\\b", "\\bassert\\b", "\\binstanceof\\b", "\\bprotected\\b",
        "\\w+Exact\\b", "\\bequals\\b", "\\bhashCode\\b", "\\btoString\\b", "\\bgetMessage\\b", "\\bdouble\\b", "\\bfloat\\b", "\\bInteger\\b",
        "\\bSystem\\.(?!arraycopy\\b)", "\\bArrays\\.(?!fill\\b)", "\\bMath\\.(?!max\\b|min\\b)", "\\bstatic \\{", "\\bpackage\\b",
        "\\bwhile \\(true\\)", "\\bfor \\(;;", "\" \\+|\\+ \"", "\\bvar\\b", "\\brecord\\b"};
    private static final Pattern METHOD = Pattern.compile("^( {4}| {8})(?! )[^=;]*\\)( throws \\w+)? \\{$");
    private static final Pattern FIELD = Pattern.compile("^( {4}| {8})private (?!static)[^(]*( = .*)?;$");

    private LanguageTest() {
    }

    public static void main(String[] args) throws IOException {
        List<String> lines = Files.readAllLines(SOURCE, StandardCharsets.ISO_8859_1);
        List<String> code = withoutComments(lines);
        imports(code);
        ruledOut(code);
        signs(lines);
        methodsAreShort(code);
        classesAndFieldsAreFew(code);
        objectsAreMadeAtFirst(code);
        Check.finish();
    }

    private static List<String> withoutComments(List<String> lines) {
        List<String> code = new ArrayList<>();
        for (String line : lines) {
            String bare = line.strip();
            boolean isComment = bare.startsWith("/*") || bare.startsWith("*") || bare.startsWith("//");
            code.add(isComment ? "" : line);
        }
        return code;
    }

    /** Rule 4. */
    private static void imports(List<String> code) {
        for (String line : code) {
            if (line.startsWith("import")) {
                boolean isListed = line.equals("import java.util.Arrays;") || line.equals("import java.util.NoSuchElementException;");
                Check.due(line + " is listed", isListed, true);
            }
        }
    }

    /** Rules 2 to 6, 9, 10 and 13. */
    private static void ruledOut(List<String> code) {
        for (String word : RULED_OUT) {
            Pattern pattern = Pattern.compile(word);
            for (String line : code) {
                Check.due("'" + word + "' in '" + line.strip() + "'", pattern.matcher(line).find(), false);
            }
        }
    }

    /** Rule 4: constants whose signs are 1 to 127. */
    private static void signs(List<String> lines) {
        for (String line : lines) {
            Check.due("signs of '" + line + "'", line.chars().allMatch(sign -> sign > 0 && sign < 128), true);
        }
    }

    /** Rule 11. */
    private static void methodsAreShort(List<String> code) {
        int methods = 0;
        for (int i = 0; i < code.size(); i++) {
            Matcher head = METHOD.matcher(code.get(i));
            if (head.matches()) {
                methods++;
                int end = i;
                while (!code.get(end).equals(head.group(1) + "}")) {
                    end++;
                }
                Check.due(code.get(i).strip() + " has at most sixty lines", end - i <= MOST_LINES, true);
            }
        }
        Check.due("methods are found", methods > 80, true);
    }

    /** Rule 11. */
    private static void classesAndFieldsAreFew(List<String> code) {
        int classes = 0;
        int[] fields = new int[2];
        for (String line : code) {
            if (line.contains(" class ")) {
                classes++;
                fields[1] = 0;
            }
            Matcher field = FIELD.matcher(line);
            if (field.matches()) {
                int depth = field.group(1).length() / 4 - 1;
                fields[depth]++;
                Check.due("fields up to " + line.strip(), fields[depth] <= MOST_FIELDS, true);
            }
        }
        Check.due("classes", classes > 1 && classes <= MOST_CLASSES, true);
        Check.due("fields are found", fields[0] > 5, true);
    }

    /** Rule 12: rows are made with the object, in fields and constructors; a call makes only what it throws. */
    private static void objectsAreMadeAtFirst(List<String> code) {
        String method = "";
        for (String line : code) {
            if (METHOD.matcher(line).matches()) {
                method = line.strip();
            }
            if (line.contains("new ")) {
                boolean isConstructor = Pattern.compile("^(public )?[A-Z]\\w*\\(").matcher(method).find();
                boolean isThrow = line.strip().startsWith("throw new ");
                boolean isField = FIELD.matcher(line).matches();
                Check.due("made in '" + line.strip() + "' of " + method, isField || isThrow || isConstructor, true);
            }
        }
    }
}
