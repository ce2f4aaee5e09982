import java.io.IOException;
import java.lang.reflect.Method;
import java.nio.file.Files;
import java.nio.file.Path;
import java.util.ArrayList;
import java.util.HashMap;
import java.util.List;
import java.util.Map;
import java.util.Set;
import java.util.TreeMap;
import java.util.TreeSet;
import java.util.regex.Matcher;
import java.util.regex.Pattern;

/** Rule 11 of ../shared/LANGUAGE.md: how deep the calls go, read off the text of the class. */
public final class CallDepthTest {
    private static final String OUTER = "KiteLogger";
    private static final String LIBRARY = "library";
    private static final int DEEPEST = 8;
    private static final Pattern CLASS = Pattern.compile(" {4}private static final class (\\w+) \\{");
    private static final Pattern METHOD = Pattern.compile(" {4,8}(?! )(?:\\w[\\w\\[\\]]* )*(\\w+)\\([^)=]*\\) (?:throws [^{]*)?\\{");
    private static final Pattern TYPED = Pattern.compile("\\b([A-Z]\\w+) (\\w+)(?= ?[;,)=])");
    private static final Pattern CALL = Pattern.compile("(new )?(?:(\\w+)\\.)?\\b(\\w+)\\(");
    private static final Set<String> NO_CALLS = Set.of("if", "for", "while", "switch", "return", "catch");
    private static final Set<String> LIBRARY_NAMES = Set.of("Math", "System", "FIRST_GUSTS", "word");

    private final Map<String, String> bodies = new TreeMap<>();
    private final Map<String, Set<String>> classesOfNames = new HashMap<>();
    private final Map<String, Set<String>> calls = new TreeMap<>();

    public static void main(String[] args) throws IOException {
        CallDepthTest test = new CallDepthTest();
        test.readBodies(Files.readAllLines(Path.of("src/main/java/KiteLogger.java")));
        test.readCalls();
        test.compareWithTheClass();
        test.compareDepths();
        Check.end();
    }

    private void readBodies(List<String> lines) {
        String inside = OUTER;
        String method = null;
        for (String line : lines) {
            String code = line.replaceAll("//.*", "").replaceAll("\"[^\"]*\"", "\"\"");
            Matcher typed = TYPED.matcher(code);
            while (typed.find()) {
                classesOfNames.computeIfAbsent(typed.group(2), name -> new TreeSet<>()).add(typed.group(1));
            }
            Matcher begun = CLASS.matcher(code);
            Matcher head = METHOD.matcher(code);
            String margin = inside.equals(OUTER) ? "    " : "        ";
            if (begun.matches()) {
                inside = begun.group(1);
            } else if (head.matches() && code.startsWith(margin) && code.charAt(margin.length()) != ' ') {
                method = inside + "." + head.group(1);
                bodies.put(method, bodies.getOrDefault(method, ""));
            } else if (code.equals(margin + "}")) {
                method = null;
            } else if (code.equals("    }")) {
                inside = OUTER;
            } else if (method != null) {
                bodies.merge(method, code + "\n", String::concat);
            }
        }
    }

    private void readCalls() {
        for (String method : bodies.keySet()) {
            Set<String> found = new TreeSet<>();
            Matcher call = CALL.matcher(bodies.get(method));
            while (call.find()) {
                if (!NO_CALLS.contains(call.group(3))) {
                    found.addAll(targets(method, call));
                }
            }
            calls.put(method, found);
        }
    }

    private Set<String> targets(String from, Matcher call) {
        String name = call.group(3);
        if (call.group(1) != null) {
            String made = name + "." + name;
            return bodies.containsKey(made) ? Set.of(made) : Set.of(LIBRARY);
        }
        List<String> classes = new ArrayList<>();
        if (call.group(2) == null) {
            String own = from.substring(0, from.indexOf('.'));
            classes.add(bodies.containsKey(own + "." + name) ? own : OUTER);
        } else {
            classes.add(call.group(2));
            classes.addAll(classesOfNames.getOrDefault(call.group(2), Set.of()));
        }
        Set<String> found = new TreeSet<>();
        for (String each : classes) {
            if (bodies.containsKey(each + "." + name)) {
                found.add(each + "." + name);
            }
        }
        if (found.isEmpty()) {
            Check.same("a call of the library or of a method that was read: " + call.group() + " in " + from, true,
                LIBRARY_NAMES.contains(call.group(2)));
            found.add(LIBRARY);
        }
        return found;
    }

    /** Else a method that this test failed to read would hide a deep call. */
    private void compareWithTheClass() {
        Set<String> due = new TreeSet<>();
        List<Class<?>> all = new ArrayList<>(List.of(KiteLogger.class.getDeclaredClasses()));
        all.add(KiteLogger.class);
        for (Class<?> each : all) {
            for (Method method : each.getDeclaredMethods()) {
                if (!method.isSynthetic()) {
                    due.add(each.getSimpleName() + "." + method.getName());
                }
            }
        }
        Set<String> found = new TreeSet<>(bodies.keySet());
        found.removeIf(method -> method.substring(0, method.indexOf('.')).equals(method.substring(method.indexOf('.') + 1)));
        Check.same("the methods that were read", due, found);
    }

    private void compareDepths() {
        for (String method : bodies.keySet()) {
            List<String> way = longestWay(method, new ArrayList<>());
            Check.same("rule 11: eight deep at most: " + way, true, way.size() <= DEEPEST);
        }
        List<String> tick = longestWay("KiteLogger.passTicks", new ArrayList<>());
        Check.same("the way of a tick was followed to its end: " + tick, true, tick.contains("Kite.passTick"));
    }

    /** A method that stands in the way already is recursion, which rule 8 counts, not rule 11. */
    private List<String> longestWay(String method, List<String> before) {
        List<String> way = new ArrayList<>(before);
        way.add(method);
        List<String> longest = way;
        for (String next : calls.getOrDefault(method, Set.of())) {
            List<String> further = way.contains(next) ? way : longestWay(next, way);
            longest = further.size() > longest.size() ? further : longest;
        }
        return longest;
    }
}
