import java.io.IOException;
import java.lang.reflect.Constructor;
import java.lang.reflect.Field;
import java.lang.reflect.Method;
import java.lang.reflect.Modifier;
import java.nio.charset.StandardCharsets;
import java.nio.file.Files;
import java.nio.file.Path;
import java.util.HashSet;
import java.util.Set;
import java.util.TreeSet;
import java.util.regex.Matcher;
import java.util.regex.Pattern;

/** The face of the document, and those rules of ../shared/LANGUAGE.md that can be seen without running anything. */
final class LanguageTest {
    private static final Check CHECK = new Check();
    private static final String FACE = "int feed(int,int,int,int,int);int back(int);int read();int place();"
            + "int thing(int,int);int pattern(int,int);int tells(int,int,int);boolean throwIn(int,int);"
            + "boolean use(int);boolean set(int);int beats(int);boolean undo();int closes(int,int);int lands();"
            + "int inHand(int);int clash();int into(int,int);int joined(int,int,int);int turned(int,int);int span(int);"
            + "int orbits(int);int swaps(int);int room(int);int handover();int limit(int);int busiest(int,int);"
            + "int load(int);int gap();int order(int);int ways(int,int,int,int);int light(int,int);int rule(int);"
            + "int down();int then(int,int);int year(int,int);int tell(int,boolean);int forget();int glitters(int,int);"
            + "int watch(int);boolean hold(int);boolean restore(int);int count(int)";

    public static void main(String[] args) throws IOException {
        face();
        classes();
        source(Files.readString(Path.of("src/main/java/StateJuggler.java"), StandardCharsets.ISO_8859_1));
        CHECK.end();
    }

    private static void holds(String rule, boolean so) {
        CHECK.due(rule, true, so);
    }

    private static void face() {
        Set<String> found = new TreeSet<>();
        for (Method method : StateJuggler.class.getDeclaredMethods()) {
            if (Modifier.isPrivate(method.getModifiers())) {
                continue;
            }
            StringBuilder one = new StringBuilder(method.getReturnType() + " " + method.getName() + "(");
            for (Class<?> type : method.getParameterTypes()) {
                one.append(one.charAt(one.length() - 1) == '(' ? "" : ",").append(type);
            }
            found.add(one.append(")").toString());
            holds(method.getName() + " is public", Modifier.isPublic(method.getModifiers()));
        }
        holds("the face, not " + found, found.equals(new TreeSet<>(Set.of(FACE.split(";")))));
        for (Field field : StateJuggler.class.getDeclaredFields()) {
            boolean none = field.getName().equals("NONE");
            holds(field.getName() + " is hidden", none || Modifier.isPrivate(field.getModifiers()));
        }
        Constructor<?>[] constructors = StateJuggler.class.getDeclaredConstructors();
        CHECK.due("one constructor", 1, constructors.length);
        CHECK.due("without arguments", 0, constructors[0].getParameterCount());
        holds("the class is final", Modifier.isFinal(StateJuggler.class.getModifiers()));
        CHECK.due("NONE", -1, StateJuggler.NONE);
    }

    private static void classes() {
        Set<String> face = new HashSet<>();
        for (Method method : StateJuggler.class.getDeclaredMethods()) {
            if (Modifier.isPublic(method.getModifiers())) {
                face.add(method.getName());
            }
        }
        Class<?>[] inside = StateJuggler.class.getDeclaredClasses();
        holds("some twelve classes", inside.length + 1 <= 12);
        inOneClass(StateJuggler.class, face);
        for (Class<?> one : inside) {
            holds(one + " is static", Modifier.isStatic(one.getModifiers()));
            inOneClass(one, face);
        }
    }

    private static void inOneClass(Class<?> one, Set<String> face) {
        int fields = 0;
        for (Field field : one.getDeclaredFields()) {
            boolean isStatic = Modifier.isStatic(field.getModifiers());
            fields += isStatic ? 0 : 1;
            holds(field + " is final if static", !isStatic || Modifier.isFinal(field.getModifiers()));
        }
        holds(one + " has some twenty fields", fields <= 20);
        for (Method method : one.getDeclaredMethods()) {
            holds(method + " takes seven at most", method.getParameterCount() <= 7);
            boolean ofFace = one == StateJuggler.class && Modifier.isPublic(method.getModifiers());
            holds(method + " has a name of its own", ofFace || !face.contains(method.getName()));
        }
    }

    private static void source(String whole) {
        String code = whole.replaceAll("(?s)/\\*.*?\\*/", "").replaceAll("//[^\n]*", "");
        String bare = code.replaceAll("\"[^\"\n]*\"", "\"\"");
        String[] words = {"throw", "try", "catch", "synchronized", "assert", "throws", "finally", "Random", "System\\.out",
            "currentTimeMillis", "nanoTime", "Thread", "Object", "equals", "hashCode", "toString", "var", "record"};
        for (String word : words) {
            holds("no " + word, !Pattern.compile("\\b" + word + "\\b").matcher(bare).find());
        }
        holds("no lambda", !bare.contains("->"));
        holds("no method reference", !bare.contains("::"));
        holds("no package", !bare.contains("package "));
        Matcher imports = Pattern.compile("import ([^;]*);").matcher(bare);
        while (imports.find()) {
            holds("import " + imports.group(1), imports.group(1).equals("java.util.Arrays"));
        }
        holds("texts are not joined by +", !Pattern.compile("\"\"\\s*\\+|\\+\\s*\"\"").matcher(bare).find());
        for (char sign : whole.toCharArray()) {
            if (sign > 127) {
                holds("sign " + (int) sign, false);
            }
        }
        methodsAreShort(bare);
    }

    private static void methodsAreShort(String bare) {
        String[] lines = bare.split("\n");
        int from = -1;
        for (int i = 0; i < lines.length; i++) {
            boolean opens = lines[i].matches("( {4}| {8})[a-zA-Z].*\\) \\{");
            if (opens) {
                from = i;
            }
            if (from >= 0 && lines[i].matches(" {4}\\}| {8}\\}")
                    && lines[i].indexOf('}') == lines[from].length() - lines[from].stripLeading().length()) {
                holds(lines[from] + " is short", i - from <= 60);
                from = -1;
            }
        }
    }
}
