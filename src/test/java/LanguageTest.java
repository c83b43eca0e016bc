import java.io.IOException;
import java.lang.reflect.Constructor;
import java.lang.reflect.Field;
import java.lang.reflect.Method;
import java.lang.reflect.Modifier;
import java.nio.charset.StandardCharsets;
import java.nio.file.Files;
import java.nio.file.Path;
import java.util.HashSet;
import java.util.Set;
import java.util.TreeSet;
import java.util.regex.Matcher;
import java.util.regex.Pattern;

/** The face of the document, and those rules of ../shared/LANGUAGE.md that can be seen without running anything. */
final class LanguageTest {
    private static final Check CHECK = new Check();
    private static final Set<String> LIBRARY = Set.of("Math.max", "Math.min", "Math.abs", "Math.floorDiv", "Math.floorMod",
            "Integer.bitCount", "Integer.compare", "System.arraycopy", "Arrays.fill", "Arrays.copyOf", "Arrays.copyOfRange");
    private static final Set<Class<?>> CONSTANTS = Set.of(int.class, long.class, boolean.class, char.class, String.class,
            int[].class, long[].class, char[].class, byte[].class);

    public static void main(String[] args) throws IOException {
        face(faceOf(Files.readString(Path.of("../shared/DOC.md"), StandardCharsets.UTF_8)));
        classes();
        source(Files.readString(Path.of("src/main/java/StateJuggler.java"), StandardCharsets.ISO_8859_1));
        CHECK.end();
    }

    private static void holds(String rule, boolean so) {
        CHECK.due(rule, true, so);
    }

    /** The methods that stand in the document's block of code, without the names of their parameters. */
    private static Set<String> faceOf(String document) {
        Set<String> methods = new TreeSet<>();
        Matcher block = Pattern.compile("(?s)## The public face.*?```java\n(.*?)```").matcher(document);
        String lines = block.find() ? block.group(1) : "";
        Matcher method = Pattern.compile("public (\\w+ \\w+\\(.*?\\));").matcher(lines);
        while (method.find()) {
            methods.add(method.group(1).replaceAll("(int|boolean) \\w+(?=[,)])", "$1").replace(", ", ","));
        }
        holds("the document has a face", methods.size() > 40);
        holds("it has one constructor", lines.contains("public StateJuggler();"));
        holds("it has NONE", lines.contains("public static final int NONE = -1;"));
        int members = lines.split("public ", -1).length - 1;
        CHECK.due("all of its members are seen", methods.size() + 3, members);
        return methods;
    }

    private static void face(Set<String> due) {
        Set<String> found = new TreeSet<>();
        for (Method method : StateJuggler.class.getDeclaredMethods()) {
            if (Modifier.isPrivate(method.getModifiers())) {
                continue;
            }
            StringBuilder one = new StringBuilder(method.getReturnType() + " " + method.getName() + "(");
            for (Class<?> type : method.getParameterTypes()) {
                one.append(one.charAt(one.length() - 1) == '(' ? "" : ",").append(type);
            }
            found.add(one.append(")").toString());
            holds(method.getName() + " is public", Modifier.isPublic(method.getModifiers()));
        }
        holds("the face, not " + found, found.equals(due));
        for (Field field : StateJuggler.class.getDeclaredFields()) {
            boolean none = field.getName().equals("NONE");
            holds(field.getName() + " is hidden", none || Modifier.isPrivate(field.getModifiers()));
        }
        Constructor<?>[] constructors = StateJuggler.class.getDeclaredConstructors();
        CHECK.due("one constructor", 1, constructors.length);
        CHECK.due("without arguments", 0, constructors[0].getParameterCount());
        holds("the constructor is public", Modifier.isPublic(constructors[0].getModifiers()));
        holds("the class is public", Modifier.isPublic(StateJuggler.class.getModifiers()));
        holds("the class is final", Modifier.isFinal(StateJuggler.class.getModifiers()));
        CHECK.due("NONE", -1, StateJuggler.NONE);
    }

    private static void classes() {
        Set<String> face = new HashSet<>();
        for (Method method : StateJuggler.class.getDeclaredMethods()) {
            if (Modifier.isPublic(method.getModifiers())) {
                face.add(method.getName());
            }
        }
        Class<?>[] inside = StateJuggler.class.getDeclaredClasses();
        holds("some twelve classes", inside.length + 1 <= 12);
        inOneClass(StateJuggler.class, face);
        for (Class<?> one : inside) {
            holds(one + " is static", Modifier.isStatic(one.getModifiers()));
            holds(one + " is hidden", !Modifier.isPublic(one.getModifiers()) && !Modifier.isProtected(one.getModifiers()));
            inOneClass(one, face);
        }
    }

    private static void inOneClass(Class<?> one, Set<String> face) {
        int fields = 0;
        for (Field field : one.getDeclaredFields()) {
            boolean isStatic = Modifier.isStatic(field.getModifiers());
            fields += isStatic ? 0 : 1;
            holds(field + " is final if static", !isStatic || Modifier.isFinal(field.getModifiers()));
            holds(field + " is a constant if static", !isStatic || CONSTANTS.contains(field.getType()));
        }
        holds(one + " has some twenty fields", fields <= 20);
        for (Method method : one.getDeclaredMethods()) {
            holds(method + " takes seven at most", method.getParameterCount() <= 7);
            boolean ofFace = one == StateJuggler.class && Modifier.isPublic(method.getModifiers());
            holds(method + " has a name of its own", ofFace || !face.contains(method.getName()));
        }
    }

    private static void source(String whole) {
        String code = whole.replaceAll("(?s)/\\*.*?\\*/", "").replaceAll("//[^\n]*", "");
        String bare = code.replaceAll("\"[^\"\n]*\"", "\"\"");
        String[] words = {"throw", "try", "catch", "synchronized", "assert", "throws", "finally", "Random", "System\\.out",
            "currentTimeMillis", "nanoTime", "Thread", "Object", "equals", "hashCode", "toString", "var", "record"};
        for (String word : words) {
            holds("no " + word, !Pattern.compile("\\b" + word + "\\b").matcher(bare).find());
        }
        holds("no lambda", !bare.contains("->"));
        holds("no method reference", !bare.contains("::"));
        holds("no package", !bare.contains("package "));
        Matcher imports = Pattern.compile("import ([^;]*);").matcher(bare);
        while (imports.find()) {
            holds("import " + imports.group(1), imports.group(1).equals("java.util.Arrays"));
        }
        Matcher calls = Pattern.compile("\\b(?:Math|Integer|Long|System|Arrays|String|Character)\\.\\w+").matcher(bare);
        while (calls.find()) {
            holds(calls.group() + " is of the library allowed", LIBRARY.contains(calls.group()));
        }
        holds("texts are not joined by +", !Pattern.compile("\"\"\\s*\\+|\\+\\s*\"\"").matcher(bare).find());
        for (char sign : whole.toCharArray()) {
            if (sign > 127) {
                holds("sign " + (int) sign, false);
            }
        }
        methodsAreShort(bare);
    }

    private static void methodsAreShort(String bare) {
        String[] lines = bare.split("\n");
        int from = -1;
        for (int i = 0; i < lines.length; i++) {
            boolean opens = lines[i].matches("( {4}| {8})[a-zA-Z].*\\) \\{");
            if (opens) {
                from = i;
            }
            if (from >= 0 && lines[i].matches(" {4}\\}| {8}\\}")
                    && lines[i].indexOf('}') == lines[from].length() - lines[from].stripLeading().length()) {
                holds(lines[from] + " is short", i - from <= 60);
                from = -1;
            }
        }
    }
}
