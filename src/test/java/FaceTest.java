import java.io.IOException;
import java.lang.reflect.Executable;
import java.lang.reflect.Field;
import java.lang.reflect.Method;
import java.lang.reflect.Modifier;
import java.nio.file.Files;
import java.nio.file.Path;
import java.util.Arrays;
import java.util.List;
import java.util.Set;
import java.util.TreeSet;
import java.util.regex.Matcher;
import java.util.regex.Pattern;
import java.util.stream.Collectors;

/** The face is just the document's, and the source keeps to what LANGUAGE.md lets a test look at. */
public final class FaceTest {
    private static final int FACE = 0;

    private FaceTest() {
    }

    /** The arguments: the path of DOC.md, and that of Twinindex.java. */
    public static void main(String[] args) throws IOException {
        face(Files.readString(Path.of(args[0])));
        members();
        nestedClasses();
        source(Files.readString(Path.of(args[1])));
        Check.end("FaceTest");
    }

    private static void face(String document) {
        String block = document.substring(document.indexOf("```java"), document.indexOf("## Description"));
        Set<String> due = new TreeSet<>();
        Matcher line = Pattern.compile("(?m)^    public (.*?)\\((.*?)\\)(?: throws (.*))?;$").matcher(block);
        while (line.find()) {
            String types = line.group(2).replaceAll("(\\w+) \\w+", "$1").replace(" ", "");
            String exceptions = line.group(3) == null ? "" : line.group(3).replace(" ", "");
            due.add(line.group(1) + "(" + types + ")" + exceptions);
        }
        Set<String> got = new TreeSet<>();
        for (Method method : Twinindex.class.getDeclaredMethods()) {
            if (!Modifier.isPrivate(method.getModifiers())) {
                got.add(method.getReturnType().getSimpleName() + " " + method.getName() + signature(method));
            }
        }
        Arrays.stream(Twinindex.class.getDeclaredConstructors())
                .forEach(constructor -> got.add("Twinindex" + signature(constructor)));
        Check.same(FACE, "the number of promises", due.size(), 51);
        Check.same(FACE, "the face", got, due);
    }

    private static String signature(Executable call) {
        return "(" + names(call.getParameterTypes()) + ")" + names(call.getExceptionTypes());
    }

    private static String names(Class<?>[] types) {
        return Arrays.stream(types).map(Class::getSimpleName).collect(Collectors.joining(","));
    }

    private static void members() {
        Class<?> face = Twinindex.class;
        Check.same(FACE, "public and final", face.getModifiers(), Modifier.PUBLIC | Modifier.FINAL);
        Set<String> names = new TreeSet<>();
        for (Method method : face.getDeclaredMethods()) {
            if (Modifier.isPublic(method.getModifiers())) {
                Check.same(FACE, method + " is no static one", Modifier.isStatic(method.getModifiers()), false);
                names.add(method.getName());
            }
        }
        for (Method method : face.getDeclaredMethods()) {
            if (!Modifier.isPublic(method.getModifiers())) {
                Check.same(FACE, method + " is private, with a name of its own",
                        Modifier.isPrivate(method.getModifiers()) && !names.contains(method.getName()), true);
            }
        }
        for (Field field : face.getDeclaredFields()) {
            Check.same(FACE, field + " is private", Modifier.isPrivate(field.getModifiers()), true);
        }
    }

    private static void nestedClasses() {
        Class<?>[] nested = Twinindex.class.getDeclaredClasses();
        Set<String> names = Arrays.stream(Twinindex.class.getMethods()).map(Method::getName)
                .collect(Collectors.toSet());
        Check.same(FACE, "twelve classes at most", nested.length < 12, true);
        for (Class<?> inside : nested) {
            int modifiers = inside.getModifiers();
            Check.same(FACE, inside + " is static, and not public",
                    Modifier.isStatic(modifiers) && !Modifier.isPublic(modifiers), true);
            for (Method method : inside.getDeclaredMethods()) {
                Check.same(FACE, method + " has a name of its own", names.contains(method.getName()), false);
            }
        }
        for (Class<?> each : withFace(nested)) {
            long fields = Arrays.stream(each.getDeclaredFields())
                    .filter(field -> !Modifier.isStatic(field.getModifiers())).count();
            Check.same(FACE, each + " has twenty fields at most", fields <= 20, true);
            for (Field field : each.getDeclaredFields()) {
                int modifiers = field.getModifiers();
                Check.same(FACE, field + " is no changing static one",
                        !Modifier.isStatic(modifiers) || Modifier.isFinal(modifiers), true);
            }
            for (Method method : each.getDeclaredMethods()) {
                Check.same(FACE, method + " takes seven at most", method.getParameterCount() <= 7, true);
            }
        }
    }

    private static List<Class<?>> withFace(Class<?>[] nested) {
        List<Class<?>> all = new java.util.ArrayList<>(List.of(nested));
        all.add(Twinindex.class);
        return all;
    }

    private static void source(String text) {
        String bare = text.replaceAll("(?s)/\\*.*?\\*/", "").replaceAll("//.*", "");
        List<String> ruledOut = List.of("\\bimport\\b", "\\bpackage\\b", "->", "::", "\\bsynchronized\\b",
                "\\bassert\\b", "\\bfinally\\b", "\\bcatch\\b", "\\btry\\b", "\" *\\+", "\\+ *\"", "static *\\{",
                "\\bwhile *\\(true", "\\bfor *\\(;;", "\\bequals\\b", "\\bhashCode\\b", "\\btoString\\(\\) *\\{",
                "\\bSystem\\.(?!arraycopy\\()", "\\bMath\\.(?!(min|max)\\()", "\\bthrow (?!new \\w+\\(\"[^\"]*\"\\);)");
        for (String rule : ruledOut) {
            Check.same(FACE, "source without " + rule, Pattern.compile(rule).matcher(bare).find(), false);
        }
        Check.same(FACE, "signs 1 to 127 alone", text.chars().allMatch(sign -> sign >= 1 && sign <= 127), true);
        Check.same(FACE, "methods of sixty lines at most", longestMethod(text) <= 60, true);
    }

    /** Lines from a method's head to the brace that closes it, told by how far both stand in. */
    private static int longestMethod(String text) {
        int longest = 0;
        int start = 0;
        String closing = "";
        String[] lines = text.split("\n");
        for (int at = 0; at < lines.length; at++) {
            Matcher head = Pattern.compile("^(    (?:    )?)\\w[^=;]*\\(.*").matcher(lines[at]);
            if (head.matches() && !lines[at].contains(";")) {
                start = at;
                closing = head.group(1) + "}";
            }
            if (lines[at].equals(closing)) {
                longest = Math.max(longest, at - start + 1);
                closing = "";
            }
        }
        return longest;
    }
}
