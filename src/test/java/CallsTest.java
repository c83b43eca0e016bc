import java.io.IOException;
import java.nio.charset.StandardCharsets;
import java.nio.file.Files;
import java.nio.file.Path;
import java.util.HashMap;
import java.util.HashSet;
import java.util.Map;
import java.util.Set;
import java.util.TreeMap;
import java.util.TreeSet;
import java.util.regex.Matcher;
import java.util.regex.Pattern;

/**
 * Rules 8, 9 and 11 of ../shared/LANGUAGE.md, as the source shows them: which methods call themselves, how deep other calls
 * go, that each loop has a bound in its head. Calls are told apart by name: one of another class counts too if it has the
 * same name, so the depth that is found is never too low.
 */
final class CallsTest {
    private static final Check CHECK = new Check();
    private static final Pattern METHOD = Pattern.compile(
            "( {4}| {8})(?:public |private |static |final )*(?:[\\w\\[\\]]+ )?(\\w+)\\([^)]*\\) \\{");
    private static final Pattern CALL = Pattern.compile("(?:(\\w+)\\.)?(\\w+)\\(");
    private static final Set<String> LIBRARY = Set.of("Math", "Integer", "System", "Arrays", "WORDS", "SIGNS");

    /* Of each method, named Class.method, what stands in it, and what it calls. */
    private static final Map<String, StringBuilder> BODIES = new TreeMap<>();
    private static final Map<String, Set<String>> CALLS = new TreeMap<>();
    private static final Map<String, Integer> DEPTHS = new HashMap<>();

    public static void main(String[] args) throws IOException {
        String whole = Files.readString(Path.of("src/main/java/StateJuggler.java"), StandardCharsets.ISO_8859_1);
        String bare = whole.replaceAll("(?s)/\\*.*?\\*/", "").replaceAll("//[^\n]*", "").replaceAll("\"[^\"\n]*\"", "\"\"");
        findMethods(bare.split("\n"));
        findCalls();
        CHECK.due("methods are found", true, BODIES.size() > 100);
        recursion();
        depth();
        loops(bare);
        CHECK.end();
    }

    private static void findMethods(String[] lines) {
        String inside = "StateJuggler";
        String method = null;
        String end = "";
        for (String line : lines) {
            Matcher opensClass = Pattern.compile(" {4}private static final class (\\w+).*").matcher(line);
            Matcher opens = METHOD.matcher(line);
            if (opensClass.matches()) {
                inside = opensClass.group(1);
            } else if (method == null && opens.matches()) {
                method = (opens.group(1).length() == 4 ? "StateJuggler" : inside) + "." + opens.group(2);
                end = opens.group(1) + "}";
                BODIES.put(method, new StringBuilder());
            } else if (line.equals(end)) {
                method = null;
            } else if (method != null) {
                BODIES.get(method).append(line).append('\n');
            }
        }
    }

    private static void findCalls() {
        for (String method : BODIES.keySet()) {
            Set<String> called = new TreeSet<>();
            Matcher call = CALL.matcher(BODIES.get(method));
            while (call.find()) {
                String own = method.substring(0, method.indexOf('.') + 1) + call.group(2);
                if (call.group(1) == null && BODIES.containsKey(own)) {
                    called.add(own);
                } else if (call.group(1) == null || !LIBRARY.contains(call.group(1))) {
                    called.addAll(named(call.group(2)));
                }
            }
            CALLS.put(method, called);
        }
    }

    private static Set<String> named(String name) {
        Set<String> found = new HashSet<>();
        for (String method : BODIES.keySet()) {
            if (method.endsWith("." + name)) {
                found.add(method);
            }
        }
        return found;
    }

    /** All that is called from there, at once or by others. */
    private static Set<String> reached(String from) {
        Set<String> found = new HashSet<>();
        java.util.ArrayDeque<String> waiting = new java.util.ArrayDeque<>(CALLS.get(from));
        while (!waiting.isEmpty()) {
            String next = waiting.pop();
            if (found.add(next)) {
                waiting.addAll(CALLS.get(next));
            }
        }
        return found;
    }

    private static void recursion() {
        Set<String> found = new TreeSet<>();
        for (String method : CALLS.keySet()) {
            if (reached(method).contains(method)) {
                found.add(method);
            }
        }
        // the first three are kept low by the ( within one another, the last by the length of a row
        Set<String> allowed = new TreeSet<>(Set.of("Reader.expression", "Reader.product", "Reader.unit", "Rows.fill"));
        CHECK.due("what calls itself is " + found, true, found.equals(allowed));
    }

    /** How many calls that are no recursion stand open at once, from this method on. */
    private static int depthOf(String method) {
        if (!DEPTHS.containsKey(method)) {
            Set<String> alike = new HashSet<>(Set.of(method));
            for (String other : reached(method)) {
                if (reached(other).contains(method)) {
                    alike.add(other);
                }
            }
            boolean recursive = reached(method).contains(method);
            int deepest = 0;
            for (String one : alike) {
                for (String called : CALLS.get(one)) {
                    if (!alike.contains(called)) {
                        deepest = Math.max(deepest, depthOf(called));
                    }
                }
            }
            DEPTHS.put(method, deepest + (recursive ? 0 : 1));
        }
        return DEPTHS.get(method);
    }

    private static void depth() {
        for (String method : CALLS.keySet()) {
            CHECK.due(method + " goes " + depthOf(method) + " deep", true, depthOf(method) <= 8);
        }
    }

    private static void loops(String bare) {
        Matcher loop = Pattern.compile("\\b(for|while) \\((.*)\\) \\{").matcher(bare);
        int found = 0;
        while (loop.find()) {
            found++;
            CHECK.due("a bound in " + loop.group(), true, loop.group(2).matches(".* (<|<=|>|>=) .*"));
        }
        CHECK.due("loops are found", true, found > 40);
        CHECK.due("no other loops", false, Pattern.compile("\\bdo \\{").matcher(bare).find());
    }
}
