import java.io.IOException;
import java.lang.reflect.Executable;
import java.lang.reflect.Field;
import java.lang.reflect.Modifier;
import java.nio.charset.StandardCharsets;
import java.nio.file.Files;
import java.nio.file.Path;
import java.util.ArrayList;
import java.util.List;
import java.util.Map;
import java.util.Set;
import java.util.TreeMap;
import java.util.TreeSet;
import java.util.regex.Matcher;
import java.util.regex.Pattern;

/** Those rules of LANGUAGE.md that can be seen in the source, or in the classes that it becomes. */
public final class LanguageTest {
    private static final Path SOURCE = Path.of("src/main/java/FrameVault.java");
    private static final String[] RULED_OUT = {
        "->", "::", "\\bfinally\\b", "\\bsynchronized\\b", "\\bassert\\b", "\\bpackage\\b", "\\bstatic \\{",
        "\\bgetMessage\\b", "\\bvar\\b", "\\bvolatile\\b", "\\bnative\\b", "\\bThread\\b", "\\bhashCode\\b",
        "\\btoString\\b", "\\bequals\\b", "\\bdouble\\b", "\\bfloat\\b", "\\bObject\\b", "Exact\\(",
    };
    private static final Set<String> LIBRARY = Set.of(
            "System.arraycopy", "Arrays.fill", "Arrays.copyOf", "Arrays.copyOfRange", "Math.abs", "Math.max", "Math.min");
    private static final Set<String> KINDS = Set.of(
            "IllegalStateException", "IllegalArgumentException", "IndexOutOfBoundsException");
    private static final Pattern METHOD = Pattern.compile(
            "^( {4}| {8})(?:@?[a-z]+ )*?(?:[A-Za-z]+(?:\\[\\])? )?([A-Za-z]+)\\([^;=]*$");

    public static void main(String[] args) throws IOException {
        List<String> lines = new ArrayList<>();
        for (String line : withoutComments(Files.readString(SOURCE, StandardCharsets.UTF_8)).split("\n")) {
            lines.add(line.replaceAll("\"[^\"]*\"", "\"\""));
        }
        Map<String, List<String>> bodies = bodiesOf(lines);
        lookAtWords(lines);
        lookAtThrows(bodies);
        lookAtNew(lines, bodies);
        lookAtLengths(bodies);
        lookAtDepth(bodies);
        lookAtClasses();
        Expect.end();
    }

    private static String withoutComments(String text) {
        return text.replaceAll("(?s)/\\*.*?\\*/", "").replaceAll("//[^\n]*", "");
    }

    /** The lines of each method and constructor, by name; those of one name are taken together. */
    private static Map<String, List<String>> bodiesOf(List<String> lines) {
        Map<String, List<String>> bodies = new TreeMap<>();
        String end = null;
        List<String> body = null;
        for (String line : lines) {
            Matcher begin = METHOD.matcher(line);
            if (end == null && begin.find()) {
                end = begin.group(1) + "}";
                body = bodies.computeIfAbsent(begin.group(2), name -> new ArrayList<>());
                body.add("");
            } else if (line.equals(end)) {
                end = null;
            } else if (end != null) {
                body.add(line);
            }
        }
        return bodies;
    }

    private static void lookAtWords(List<String> lines) {
        Pattern library = Pattern.compile("\\b(System|Arrays|Math|Integer|Long|String)\\.\\w+");
        for (String line : lines) {
            for (String word : RULED_OUT) {
                Expect.yes("without " + word + ": " + line, !Pattern.compile(word).matcher(line).find());
            }
            Expect.yes("one import: " + line, !line.startsWith("import") || line.equals("import java.util.Arrays;"));
            Matcher used = library.matcher(line.startsWith("import") ? "" : line);
            while (used.find()) {
                Expect.yes("rule 4 has " + used.group(), LIBRARY.contains(used.group()));
            }
        }
    }

    /** Rule 6: only the face throws, and nothing is caught. */
    private static void lookAtThrows(Map<String, List<String>> bodies) {
        Pattern form = Pattern.compile("^ *throw new (\\w+)\\(\"\"\\);$");
        Set<String> face = faceNames();
        for (Map.Entry<String, List<String>> entry : bodies.entrySet()) {
            for (String line : entry.getValue()) {
                Expect.yes("nothing is caught: " + line, !Pattern.compile("\\b(try|catch)\\b").matcher(line).find());
                if (Pattern.compile("\\bthrow\\b").matcher(line).find()) {
                    Matcher thrown = form.matcher(line);
                    Expect.yes("rule 6 has " + line, thrown.find() && KINDS.contains(thrown.group(1)));
                    Expect.yes(entry.getKey() + ", which throws, is of the face", face.contains(entry.getKey()));
                }
            }
        }
    }

    /** No call makes an object but an exception, so that a run's room is that of its vaults. */
    private static void lookAtNew(List<String> lines, Map<String, List<String>> bodies) {
        Pattern made = Pattern.compile("\\bnew\\b|\\.clone\\(|copyOf");
        for (Map.Entry<String, List<String>> entry : bodies.entrySet()) {
            for (String line : entry.getValue()) {
                boolean may = entry.getKey().equals("FrameVault") || line.contains("throw new ");
                Expect.yes("made outside a constructor: " + line, may || !made.matcher(line).find());
            }
        }
        int rows = 0;
        for (String line : lines) {
            Expect.yes("a row is an object's own: " + line, !line.contains("static final int[]"));
            rows += line.contains("new int[") ? 1 : 0;
        }
        Expect.yes("rows were seen", rows > 0);
    }

    private static void lookAtLengths(Map<String, List<String>> bodies) {
        Expect.yes("methods were seen: " + bodies.keySet(), bodies.keySet().containsAll(faceNames()));
        for (Map.Entry<String, List<String>> entry : bodies.entrySet()) {
            Expect.yes(entry.getKey() + " is short", entry.getValue().size() <= 60);
        }
    }

    /** Rule 11: at most eight calls deep, and no recursion; by names, so this is rather too strict. */
    private static void lookAtDepth(Map<String, List<String>> bodies) {
        int deepest = 0;
        for (String name : bodies.keySet()) {
            deepest = Math.max(deepest, depthOf(name, bodies, 1));
        }
        Expect.yes("calls go at most eight deep, and not " + deepest, deepest <= 8);
        Expect.yes("calls were seen", deepest > 3);
    }

    private static int depthOf(String name, Map<String, List<String>> bodies, int depth) {
        int deepest = depth;
        for (String line : bodies.get(name)) {
            Matcher call = Pattern.compile("(\\bnew )?\\b(\\w+)\\(").matcher(line);
            while (call.find() && depth <= 20) {
                if (call.group(1) == null && bodies.containsKey(call.group(2))) {
                    deepest = Math.max(deepest, depthOf(call.group(2), bodies, depth + 1));
                }
            }
        }
        return deepest;
    }

    private static Set<String> faceNames() {
        Set<String> names = new TreeSet<>();
        for (Executable method : FrameVault.class.getDeclaredMethods()) {
            if (Modifier.isPublic(method.getModifiers())) {
                names.add(method.getName());
            }
        }
        return names;
    }

    private static void lookAtClasses() {
        List<Class<?>> kinds = new ArrayList<>(List.of(FrameVault.class.getDeclaredClasses()));
        kinds.add(FrameVault.class);
        Expect.yes("at most twelve classes", kinds.size() <= 12);
        for (Class<?> kind : kinds) {
            Expect.same("classes inside " + kind, kind == FrameVault.class ? 0 : kind.getDeclaredClasses().length, 0);
            int fields = 0;
            for (Field field : kind.getDeclaredFields()) {
                boolean fixed = Modifier.isStatic(field.getModifiers());
                fields += fixed ? 0 : 1;
                Expect.yes(field + " is final if static", !fixed || Modifier.isFinal(field.getModifiers()));
            }
            Expect.yes(kind + " has few fields", fields <= 20);
            lookAtParameters(kind.getDeclaredMethods());
            lookAtParameters(kind.getDeclaredConstructors());
        }
    }

    private static void lookAtParameters(Executable[] methods) {
        for (Executable method : methods) {
            Expect.yes(method + " takes at most seven", method.getParameterCount() <= 7);
        }
    }
}
