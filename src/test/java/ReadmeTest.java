import java.io.IOException;
import java.lang.reflect.InvocationTargetException;
import java.lang.reflect.Method;
import java.lang.reflect.Modifier;
import java.nio.charset.StandardCharsets;
import java.nio.file.DirectoryStream;
import java.nio.file.Files;
import java.nio.file.Path;
import java.util.HashMap;
import java.util.Map;
import java.util.regex.Matcher;
import java.util.regex.Pattern;

/** README.md: its examples answer as they say, it names every call and every test, and how the tests are run. */
final class ReadmeTest {
    private static final Check CHECK = new Check();
    private static final Pattern BLOCK = Pattern.compile("(?s)```java\n(.*?)```");
    private static final Pattern PUT = Pattern.compile("Check\\.put\\(x, \"(.*)\"\\);.*");
    private static final Pattern CALL = Pattern.compile("x\\.(\\w+)\\((.*?)\\); +// (-?\\d+|true|false)(:.*)?");
    private static final Map<String, Method> FACE = new HashMap<>();

    public static void main(String[] args) throws IOException, ReflectiveOperationException {
        for (Method method : StateJuggler.class.getDeclaredMethods()) {
            if (Modifier.isPublic(method.getModifiers())) {
                FACE.put(method.getName(), method);
            }
        }
        String page = Files.readString(Path.of("README.md"), StandardCharsets.UTF_8);
        int blocks = 0;
        Matcher block = BLOCK.matcher(page);
        while (block.find()) {
            blocks++;
            example(block.group(1).split("\n"));
        }
        CHECK.due("examples are found", true, blocks >= 2);
        namesAll(page);
        CHECK.end();
    }

    private static void example(String[] lines) throws ReflectiveOperationException {
        StateJuggler x = new StateJuggler();
        CHECK.due("an example begins with a new object", true, lines[0].equals("StateJuggler x = new StateJuggler();"));
        for (int i = 1; i < lines.length; i++) {
            Matcher put = PUT.matcher(lines[i]);
            Matcher call = CALL.matcher(lines[i]);
            if (put.matches()) {
                Check.put(x, put.group(1));
            } else if (call.matches()) {
                CHECK.due("README: " + lines[i], asNumber(call.group(3)), answer(x, call.group(1), call.group(2)));
            } else {
                CHECK.due("README: a call with its answer, not " + lines[i], true, false);
            }
        }
    }

    private static long answer(StateJuggler x, String name, String row) throws ReflectiveOperationException {
        Method method = FACE.get(name);
        String[] texts = row.isEmpty() ? new String[0] : row.split(", ");
        if (method == null || method.getParameterCount() != texts.length) {
            CHECK.due("README: there is a call " + name + "(" + row + ")", true, false);
            return Long.MIN_VALUE;
        }
        Object[] values = new Object[texts.length];
        for (int i = 0; i < texts.length; i++) {
            boolean truth = method.getParameterTypes()[i] == boolean.class;
            values[i] = truth ? (Object) Boolean.valueOf(texts[i]) : (Object) Integer.decode(texts[i]);
        }
        try {
            return asNumber(method.invoke(x, values).toString());
        } catch (InvocationTargetException e) {
            CHECK.due("README: " + name + "(" + row + ") threw " + e.getCause(), true, false);
            return Long.MIN_VALUE;
        }
    }

    private static long asNumber(String text) {
        if (text.equals("true") || text.equals("false")) {
            return text.equals("true") ? 1 : 0;
        }
        return Long.parseLong(text);
    }

    private static void namesAll(String page) throws IOException {
        for (String name : FACE.keySet()) {
            CHECK.due("README tells what " + name + " is for", true, page.contains("`" + name + "`"));
        }
        try (DirectoryStream<Path> tests = Files.newDirectoryStream(Path.of("src/test/java"), "*Test.java")) {
            for (Path test : tests) {
                String name = test.getFileName().toString().replace(".java", "");
                CHECK.due("README tells what " + name + " holds", true, page.contains("| `" + name + "` |"));
            }
        }
        CHECK.due("README says how to run the tests", true, page.contains("\n    bash .ci/run\n"));
    }
}
