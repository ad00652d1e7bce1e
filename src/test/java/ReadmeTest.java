import java.io.IOException;
import java.lang.reflect.Method;
import java.lang.reflect.Modifier;
import java.nio.file.Files;
import java.nio.file.Path;
import java.util.ArrayList;
import java.util.HashSet;
import java.util.List;
import java.util.Set;
import java.util.regex.Matcher;
import java.util.regex.Pattern;

/**
 * README.md tells no wrong answer: its example is called line by line, each answer is compared with
 * the one that stands behind the line, and its table has a row for every call of the face.
 */
public final class ReadmeTest {
    private static final Pattern CALL =
            Pattern.compile("(?:.*= )?x\\.(\\w+)\\(([^)]*)\\);(?:\\s*// (\\w+|-\\d+):.*)?");
    private static final Pattern TABLE_ROW = Pattern.compile("\\| `(\\w+)\\(([^)]*)\\)` \\|.*");

    private static int wrong = 0;

    private static void tell(String text) {
        wrong++;
        System.out.println("README.md: " + text);
    }

    private static List<String> exampleOf(List<String> readme) {
        List<String> example = new ArrayList<>();
        boolean isInside = false;
        for (String line : readme) {
            if (line.startsWith("```")) {
                isInside = line.equals("```java");
            } else if (isInside && !line.isBlank()) {
                example.add(line);
            }
        }
        return example;
    }

    private static List<Method> calls() {
        List<Method> calls = new ArrayList<>();
        for (Method method : DeltaRows.class.getDeclaredMethods()) {
            if (Modifier.isPublic(method.getModifiers())) {
                calls.add(method);
            }
        }
        return calls;
    }

    private static Object answerOf(DeltaRows x, String name, String told) throws ReflectiveOperationException {
        String[] texts = told.isEmpty() ? new String[0] : told.split(", ");
        for (Method method : calls()) {
            if (method.getName().equals(name) && method.getParameterCount() == texts.length) {
                Object[] args = new Object[texts.length];
                for (int i = 0; i < texts.length; i++) {
                    boolean isLong = method.getParameterTypes()[i] == long.class;
                    args[i] = isLong ? (Object) Long.valueOf(texts[i]) : (Object) Integer.valueOf(texts[i]);
                }
                return method.invoke(x, args);
            }
        }
        return "(there is no such call)";
    }

    private static void example(List<String> lines) throws ReflectiveOperationException {
        if (lines.isEmpty() || !lines.get(0).equals("DeltaRows x = new DeltaRows();")) {
            tell("no example that begins with a new object");
            return;
        }
        DeltaRows x = new DeltaRows();
        int compared = 0;
        for (String line : lines.subList(1, lines.size())) {
            Matcher call = CALL.matcher(line);
            if (!call.matches()) {
                tell("no call in the line: " + line);
                continue;
            }
            Object answer = answerOf(x, call.group(1), call.group(2));
            String due = call.group(3);
            if (due != null) {
                compared++;
                String plain = due.equals("NONE") ? String.valueOf(DeltaRows.NONE) : due;
                if (!plain.equals(String.valueOf(answer))) {
                    tell("answered " + answer + ": " + line);
                }
            }
        }
        if (compared == 0) {
            tell("no line of the example tells an answer");
        }
    }

    private static String typesOf(String parameters) {
        return parameters.replaceAll(" \\w+(, |$)", "$1");
    }

    private static String signatureOf(Method method) {
        List<String> types = new ArrayList<>();
        for (Class<?> type : method.getParameterTypes()) {
            types.add(type.getName());
        }
        return method.getName() + "(" + String.join(", ", types) + ")";
    }

    private static void table(List<String> readme) {
        Set<String> told = new HashSet<>();
        for (String line : readme) {
            Matcher row = TABLE_ROW.matcher(line);
            if (row.matches()) {
                told.add(row.group(1) + "(" + typesOf(row.group(2)) + ")");
            }
        }
        Set<String> face = new HashSet<>();
        for (Method method : calls()) {
            face.add(signatureOf(method));
        }
        for (String call : face) {
            if (!told.contains(call)) {
                tell("no row for " + call);
            }
        }
        for (String call : told) {
            if (!face.contains(call)) {
                tell("a row for " + call + ", which is no call");
            }
        }
    }

    public static void main(String[] args) throws IOException, ReflectiveOperationException {
        List<String> readme = Files.readAllLines(Path.of("README.md"));
        example(exampleOf(readme));
        table(readme);
        System.out.println(wrong == 0 ? "all answers are as due" : wrong + " answers are not as due");
        if (wrong != 0) {
            System.exit(1);
        }
    }
}
