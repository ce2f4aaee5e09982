import java.io.IOException;
import java.lang.reflect.Array;
import java.lang.reflect.Constructor;
import java.lang.reflect.Field;
import java.lang.reflect.Method;
import java.lang.reflect.Modifier;
import java.nio.file.Files;
import java.nio.file.Path;
import java.util.ArrayList;
import java.util.Collections;
import java.util.IdentityHashMap;
import java.util.List;
import java.util.Set;
import java.util.TreeSet;
import java.util.regex.Matcher;
import java.util.regex.Pattern;

/** The face of the document, and those rules of ../shared/LANGUAGE.md that can be read off the class or its text. */
public final class FaceTest {
    private static final String FORBIDDEN = "\\bimport\\b|\\bpackage\\b|->|::|\\bcatch\\b|\\bfinally\\b|\\bsynchronized\\b"
        + "|\\bassert\\b|\\bprotected\\b|\\bvar\\b|\\bstatic \\{|\\bNaN\\b|Exact\\(|\\bSystem\\.(?!arraycopy)|\\bMath\\.(?!abs|min|max)"
        + "|\\bhashCode\\b|\\btoString\\b|\\bequals\\b|\\blong\\b|\\bThread\\b|\\bRandom\\b";
    private static final int LONGEST_METHOD = 60;
    private static final int MOST_PARAMETERS = 7;
    private static final int MOST_CLASSES = 12;
    private static final int MOST_FIELDS = 20;
    // Far below the room of a run, which may make many stations.
    private static final int MOST_OBJECTS = 200;
    private static final int MOST_ELEMENTS = 6000;

    private int objects = 0;
    private int elements = 0;
    private final Set<Object> seen = Collections.newSetFromMap(new IdentityHashMap<>());

    public static void main(String[] args) throws IOException, IllegalAccessException {
        face();
        members();
        classesInside();
        text();
        recursion();
        room();
        Check.end();
    }

    private static void face() throws IOException {
        String document = Files.readString(Path.of("../shared/DOC.md"));
        String face = document.substring(document.indexOf("public final class KiteLogger {"));
        face = face.substring(0, face.indexOf("\n}"));
        TreeSet<String> due = new TreeSet<>();
        Matcher matcher = Pattern.compile("public (\\w+) (\\w+)\\(([^)]*)\\)(?: throws ([^;]*))?;").matcher(face);
        while (matcher.find()) {
            String types = matcher.group(3).replaceAll("(\\w+) \\w+", "$1").replace(" ", "");
            String thrown = matcher.group(4) == null ? "" : matcher.group(4).replace(" ", "");
            due.add(matcher.group(1) + " " + matcher.group(2) + "(" + types + ") " + thrown);
        }
        TreeSet<String> found = new TreeSet<>();
        for (Method method : KiteLogger.class.getDeclaredMethods()) {
            if (Modifier.isPublic(method.getModifiers())) {
                found.add(signature(method));
            }
        }
        Check.same("the document's face has methods", 62, due.size());
        Check.same("the face", due, found);
    }

    private static String signature(Method method) {
        List<String> types = new ArrayList<>();
        for (Class<?> type : method.getParameterTypes()) {
            types.add(type.getSimpleName());
        }
        List<String> thrown = new ArrayList<>();
        for (Class<?> type : method.getExceptionTypes()) {
            thrown.add(type.getSimpleName());
        }
        return method.getReturnType().getSimpleName() + " " + method.getName() + "(" + String.join(",", types) + ") "
            + String.join(",", thrown);
    }

    private static void members() {
        Check.same("rule 1: the class is public and final", Modifier.PUBLIC | Modifier.FINAL, KiteLogger.class.getModifiers());
        for (Constructor<?> constructor : KiteLogger.class.getDeclaredConstructors()) {
            Check.same("rule 1: the constructor", Modifier.PUBLIC, constructor.getModifiers());
            Check.same("rule 1: the constructor's parameters", 0, constructor.getParameterCount());
        }
        TreeSet<String> publicNames = new TreeSet<>();
        for (Method method : KiteLogger.class.getDeclaredMethods()) {
            if (Modifier.isPublic(method.getModifiers())) {
                publicNames.add(method.getName());
            }
        }
        for (Method method : KiteLogger.class.getDeclaredMethods()) {
            boolean open = Modifier.isPublic(method.getModifiers());
            Check.same("rule 1: private or of the face: " + method.getName(), true, open || Modifier.isPrivate(method.getModifiers()));
            Check.same("rule 1: its name: " + method.getName(), open, publicNames.contains(method.getName()));
        }
    }

    private static void classesInside() {
        List<Class<?>> all = new ArrayList<>(List.of(KiteLogger.class.getDeclaredClasses()));
        for (Class<?> inside : all) {
            Check.same("rule 1: static " + inside, true, Modifier.isStatic(inside.getModifiers()));
            Check.same("rule 1: private " + inside, true, Modifier.isPrivate(inside.getModifiers()));
        }
        all.add(KiteLogger.class);
        Check.same("rule 11: classes", true, all.size() <= MOST_CLASSES);
        for (Class<?> each : all) {
            int fields = 0;
            for (Field field : each.getDeclaredFields()) {
                boolean constant = Modifier.isStatic(field.getModifiers());
                fields += constant ? 0 : 1;
                Check.same("rule 5: " + field, true, !constant || Modifier.isFinal(field.getModifiers()));
                Check.same("rule 1: " + field, true, Modifier.isPrivate(field.getModifiers()));
            }
            Check.same("rule 11: fields of " + each, true, fields <= MOST_FIELDS);
            for (Method method : each.getDeclaredMethods()) {
                Check.same("rule 11: parameters of " + method, true, method.getParameterCount() <= MOST_PARAMETERS);
            }
        }
    }

    private static void text() throws IOException {
        String source = Files.readString(Path.of("src/main/java/KiteLogger.java"));
        Check.same("rule 4: signs from 1 to 127", true, source.chars().allMatch(sign -> sign > 0 && sign < 128));
        String code = source.replaceAll("(?s)/\\*.*?\\*/", "").replaceAll("//.*", "").replaceAll("\"[^\"]*\"", "\"\"");
        Matcher matcher = Pattern.compile(FORBIDDEN).matcher(code);
        Check.same("what the rules leave out", "", matcher.find() ? matcher.group() : "");
        Matcher thrown = Pattern.compile("\\bthrow\\b(?! new (IllegalArgument|IllegalState|IndexOutOfBounds)Exception\\(\"\"\\);)")
            .matcher(code);
        Check.same("rule 6: throws of another form", false, thrown.find());
        int begun = 0;
        String[] lines = source.split("\n");
        for (int i = 0; i < lines.length; i++) {
            if (lines[i].matches(" {4,8}(?! )[^=;]*\\) ?(throws [^{]*)?\\{")) {
                begun = i;
            }
            if (lines[i].matches(" {4,8}\\}") && i - begun >= LONGEST_METHOD) {
                boolean classEnd = lines[i].equals("    }") && i > 0 && lines[i - 1].equals("        }");
                Check.same("rule 11: a long method that ends in line " + (i + 1), true, classEnd);
            }
        }
    }

    /** Rule 8: what calls itself is private and static; what calls one another is private. */
    private static void recursion() throws IOException {
        String source = Files.readString(Path.of("src/main/java/KiteLogger.java"));
        Matcher matcher = Pattern.compile("(?m)^ {4,8}([a-z][\\w\\[\\] ]*) (\\w+)\\([^)]*\\) (?:throws [^{]*)?\\{$").matcher(source);
        int found = 0;
        while (matcher.find()) {
            String body = source.substring(matcher.end(), source.indexOf("\n    }", matcher.end()));
            int end = body.indexOf("\n        }\n\n");
            body = matcher.group().startsWith("        ") && end >= 0 ? body.substring(0, end) : body;
            if (Pattern.compile("(?<![.\\w])" + matcher.group(2) + "\\(").matcher(body).find()) {
                found++;
                Check.same("rule 8: " + matcher.group(2), "private static", matcher.group(1).replaceAll("( static)? \\w+$", "$1"));
            }
        }
        Check.same("rule 8: only the blocks of a script", 1, found);
    }

    /** Rule 12: what the constructor makes is little, and the calls keep nothing more. */
    private static void room() throws IllegalAccessException {
        KiteLogger x = new KiteLogger();
        FaceTest fresh = counted(x);
        Check.same("rule 12: objects", true, fresh.objects <= MOST_OBJECTS);
        Check.same("rule 12: elements", true, fresh.elements <= MOST_ELEMENTS);
        for (int i = 0; i < 50; i++) {
            Check.run(x, "repeat 5(out 50;launch;wait 30;in 50;archive;);");
            x.passTicks(1);
            x.saveSnapshot();
            x.undo();
            x.writeLogger();
            Check.load(x, "kite 1 999 9999;gusts 10 11;interval 1;");
        }
        FaceTest used = counted(x);
        Check.same("rule 12: objects after many calls", fresh.objects, used.objects);
        Check.same("rule 12: elements after many calls", fresh.elements, used.elements);
    }

    private static FaceTest counted(KiteLogger x) throws IllegalAccessException {
        FaceTest count = new FaceTest();
        count.add(x);
        return count;
    }

    private void add(Object object) throws IllegalAccessException {
        if (object == null || !seen.add(object)) {
            return;
        }
        objects++;
        if (object.getClass().isArray()) {
            elements += Array.getLength(object);
            for (int i = 0; i < Array.getLength(object) && object instanceof Object[]; i++) {
                add(Array.get(object, i));
            }
            return;
        }
        for (Field field : object.getClass().getDeclaredFields()) {
            if (!Modifier.isStatic(field.getModifiers())) {
                elements++;
                field.setAccessible(true);
                if (!field.getType().isPrimitive()) {
                    add(field.get(object));
                }
            }
        }
    }
}
