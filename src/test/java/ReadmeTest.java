import java.io.IOException;
import java.lang.reflect.InvocationTargetException;
import java.lang.reflect.Method;
import java.nio.charset.StandardCharsets;
import java.nio.file.Files;
import java.nio.file.Path;
import java.util.regex.Matcher;
import java.util.regex.Pattern;

/** README.md tells the truth: each call that it shows answers what stands behind it, and every call is shown. */
public final class ReadmeTest {
    private static final Pattern CALL = Pattern.compile("x\\.(\\w+)\\((.*)\\); +// (throws \\w+|[-\\w]+).*");

    private ReadmeTest() {
    }

    public static void main(String[] args) throws IOException {
        String readme = Files.readString(Path.of("README.md"), StandardCharsets.UTF_8);
        theCallsAnswerSo(readme);
        everyCallIsExplained(readme);
        aTextGoesOnTheTape();
        theHelperIsTheSame(readme);
        Check.finish();
    }

    private static void theCallsAnswerSo(String readme) {
        WellCourt x = new WellCourt();
        int calls = 0;
        for (String line : readme.split("\n")) {
            if (line.startsWith("x.")) {
                Matcher call = CALL.matcher(line);
                boolean isCall = call.matches();
                Check.due("'" + line + "' is a call with its answer", isCall, true);
                if (isCall) {
                    calls++;
                    Check.due(line, answer(x, call.group(1), call.group(2)), call.group(3).replace("NONE", "-1"));
                }
            }
        }
        Check.due("calls are shown", calls > 35, true);
    }

    private static String answer(WellCourt x, String name, String numbers) {
        String[] words = numbers.isEmpty() ? new String[0] : numbers.split(", *");
        Object[] given = new Object[words.length];
        for (int i = 0; i < words.length; i++) {
            given[i] = Long.decode(words[i]).intValue();
        }
        for (Method method : WellCourt.class.getMethods()) {
            if (method.getName().equals(name) && method.getParameterCount() == given.length) {
                try {
                    return String.valueOf(method.invoke(x, given));
                } catch (InvocationTargetException e) {
                    return "throws " + e.getCause().getClass().getSimpleName();
                } catch (IllegalAccessException e) {
                    return "can't be called";
                }
            }
        }
        return "no such call";
    }

    private static void everyCallIsExplained(String readme) {
        for (Method method : WellCourt.class.getDeclaredMethods()) {
            if (java.lang.reflect.Modifier.isPublic(method.getModifiers())) {
                Check.due(method.getName() + " is explained", readme.contains("\n| `" + method.getName() + "("), true);
            }
        }
    }

    private static void aTextGoesOnTheTape() {
        for (int size = 0; size <= 800; size++) {
            WellCourt x = new WellCourt();
            x.feed(1, 2, 3, 4, 5);
            Check.due("a text of " + size, text(x, size == 0 ? "" : " ".repeat(size - 1) + "#"), true);
            Check.due("its bytes", x.count(5), size);
            Check.due("the place of its last byte", x.rights(), -size);
        }
        WellCourt x = new WellCourt();
        Check.due("a text that is too long", text(x, " ".repeat(801)), false);
        Check.due("a text", text(x, "turns 0: a 1; wed a b;"), true);
        Check.due("its rules", x.rights(), 2);
    }

    private static void theHelperIsTheSame(String readme) throws IOException {
        String source = Files.readString(Path.of("src", "test", "java", "ReadmeTest.java"), StandardCharsets.UTF_8);
        int from = readme.indexOf("static boolean text(");
        String helper = readme.substring(from, readme.indexOf("```", from)).strip();
        Check.due("README.md has the helper that is tested", source.contains(helper.indent(4).stripTrailing()), true);
    }

    /** As README.md has it. */
    static boolean text(WellCourt x, String text) {
        int[] four = new int[5];
        boolean fed = x.end(0);
        for (int from = 0; from < text.length(); from += 20) {
            for (int i = 0; i < 20; i++) {
                int sign = from + i < text.length() ? text.charAt(from + i) & 255 : 0;
                four[i / 4] = four[i / 4] << 8 | sign;
            }
            fed &= x.feed(four[0], four[1], four[2], four[3], four[4]) != WellCourt.NONE;
        }
        return fed && x.end(text.length());
    }
}
