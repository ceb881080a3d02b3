import java.io.IOException;
import java.nio.file.Files;
import java.nio.file.Path;
import java.util.ArrayList;
import java.util.List;
import java.util.regex.Matcher;
import java.util.regex.Pattern;

/** README.md tells true: the calls of its examples are compiled and made, and answer what stands behind them. */
public final class ReadmeTest {
    private static final Pattern EXAMPLE = Pattern.compile("(?ms)^```java$(.*?)^```$");
    private static final Pattern CALL = Pattern.compile("(index\\.\\w+\\(.*\\)); *// (.+)");
    private static final String MADE = "Twinindex index = new Twinindex();";

    private ReadmeTest() {
    }

    /** The third argument: the path of README.md. */
    public static void main(String[] args) throws IOException, ReflectiveOperationException {
        Matcher examples = EXAMPLE.matcher(Files.readString(Path.of(args[2])));
        int many = 0;
        while (examples.find()) {
            many++;
            example(examples.group(1).strip().split("\n"));
        }
        Check.same("README.md has an example", many > 0, true);
        Check.end("ReadmeTest");
    }

    /** First the object is made; then each line is empty, a remark, or a call and its answer. */
    private static void example(String[] lines) throws ReflectiveOperationException {
        List<String> calls = new ArrayList<>();
        List<String> dues = new ArrayList<>();
        Check.same("README.md, the example's first line", lines[0], MADE);
        for (int at = 1; at < lines.length; at++) {
            Matcher call = CALL.matcher(lines[at]);
            if (call.matches()) {
                calls.add(call.group(1));
                dues.add(call.group(2));
            } else {
                boolean isRemark = lines[at].isEmpty() || lines[at].startsWith("//");
                Check.same("README.md, a call with its answer: " + lines[at], isRemark, true);
            }
        }
        Check.same("README.md has calls", calls.isEmpty(), false);
        List<?> answers = answers(calls);
        for (int at = 0; at < calls.size(); at++) {
            Check.same("README.md: " + calls.get(at), told(answers.get(at)), dues.get(at));
        }
    }

    private static List<?> answers(List<String> calls) throws ReflectiveOperationException {
        StringBuilder text = new StringBuilder("public final class ReadmeCalls {\n");
        text.append("public static java.util.List<Object> answers() {\n");
        text.append("java.util.List<Object> answers = new java.util.ArrayList<>();\n").append(MADE).append('\n');
        for (String call : calls) {
            text.append("try { answers.add(").append(call)
                    .append("); } catch (RuntimeException e) { answers.add(e.getClass()); }\n");
        }
        text.append("return answers;\n}\n}\n");
        return (List<?>) Compiled.of("ReadmeCalls", text.toString()).getMethod("answers").invoke(null);
    }

    private static String told(Object answer) {
        if (answer instanceof Class) {
            return "throws " + ((Class<?>) answer).getSimpleName();
        }
        return answer instanceof String ? "\"" + answer + "\"" : String.valueOf(answer);
    }
}
