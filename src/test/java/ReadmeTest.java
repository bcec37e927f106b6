import java.io.IOException;
import java.lang.reflect.Method;
import java.nio.charset.StandardCharsets;
import java.nio.file.Files;
import java.nio.file.Path;
import java.util.ArrayList;
import java.util.List;

/** README.md tells of each method of the face, and what its example says is so. */
public final class ReadmeTest {
    private static final Path README = Path.of("README.md");
    private static final Path OWN_SOURCE = Path.of("src/test/java/ReadmeTest.java");

    public static void main(String[] args) throws IOException {
        String readme = Files.readString(README, StandardCharsets.UTF_8);
        for (Method method : FrameVault.class.getMethods()) {
            if (method.getDeclaringClass() == FrameVault.class) {
                lookForMethod(readme, method);
            }
        }
        Expect.yes("README.md tells of the constructor", rowOf(readme, "FrameVault").length == 3);
        Expect.yes("README.md tells of NONE", readme.contains("`FrameVault.NONE`, -1"));
        Expect.yes("README.md tells how to run the tests", readme.contains("    .ci/run\n"));
        lookForTests(readme);
        lookForExample(readme);
        example();
        Expect.end();
    }

    /** A row of its own, with as many parameters as it has and with just its exceptions, in their order. */
    private static void lookForMethod(String readme, Method method) {
        String[] row = rowOf(readme, method.getName());
        Expect.same("columns of README.md's row of " + method.getName(), row.length, 3);
        if (row.length != 3) {
            return;
        }
        String parameters = row[0].substring(row[0].indexOf('(') + 1, row[0].indexOf(')'));
        int many = parameters.isEmpty() ? 0 : parameters.split(", ").length;
        Expect.same("parameters in README.md of " + method.getName(), many, method.getParameterCount());
        List<String> due = new ArrayList<>();
        for (Class<?> kind : method.getExceptionTypes()) {
            due.add(kind.getSimpleName());
        }
        List<String> told = new ArrayList<>();
        for (String word : row[2].split("[^A-Za-z]+")) {
            if (word.endsWith("Exception")) {
                told.add(word);
            }
        }
        Expect.same("exceptions in README.md of " + method.getName(), told.toString(), due.toString());
    }

    /** The columns of the only row of the table of calls that begins with this name; none if it is not there. */
    private static String[] rowOf(String readme, String name) {
        List<String[]> rows = new ArrayList<>();
        for (String line : readme.split("\n")) {
            if (line.startsWith("| `" + name + "(")) {
                rows.add(line.substring(2, line.length() - 2).split(" \\| "));
            }
        }
        Expect.same("rows of README.md that tell of " + name, rows.size(), 1);
        return rows.isEmpty() ? new String[0] : rows.get(0);
    }

    private static void lookForTests(String readme) throws IOException {
        try (var files = Files.list(OWN_SOURCE.getParent())) {
            files.map(file -> file.getFileName().toString().replace(".java", ""))
                    .forEach(name -> Expect.yes("README.md names " + name, readme.contains("`" + name + "`")));
        }
    }

    /** The lines of the example are those that are run below. */
    private static void lookForExample(String readme) throws IOException {
        List<String> own = new ArrayList<>();
        boolean inside = false;
        for (String line : Files.readAllLines(OWN_SOURCE, StandardCharsets.UTF_8)) {
            if (line.startsWith("    private static void example()")) {
                inside = true;
            } else if (line.equals("    }")) {
                inside = false;
            } else if (inside && !line.contains("Expect.")) {
                own.add(line.strip());
            }
        }
        String block = readme.substring(readme.indexOf("```java\n") + 8);
        block = block.substring(0, block.indexOf("```"));
        List<String> told = new ArrayList<>();
        for (String line : block.split("\n")) {
            told.add(line.replaceAll("//.*", "").strip());
        }
        Expect.same("README.md's example", String.join("\n", told), String.join("\n", own));
    }

    private static void example() {
        FrameVault vault = new FrameVault();
        vault.shape(4, 3, 1);
        int frame = vault.frame(10);
        int before = vault.set(frame, 0, 2, 1, 93);
        int many = vault.write(1, 3);
        Expect.same("before", before, 0);

        FrameVault copy = new FrameVault();
        for (int k = 0; k < vault.size(); k++) {
            copy.type(vault.byteAt(k), 1);
        }
        int place = copy.read();
        int sample = copy.get(0, 0, 2, 1);
        int time = copy.time(0);
        int frames = copy.about(0);
        int width = copy.about(1);
        Expect.same("the first reading", place, FrameVault.NONE);
        Expect.same("sample", sample, 93);
        Expect.same("time", time, 10);
        Expect.same("frames", frames, 1);
        Expect.same("width", width, 4);

        copy.poke(0, 27);
        place = copy.read();
        Expect.same("the reading of a wrong id", place, 0);
        copy.poke(0, 26);
        copy.cut(many - 1);
        place = copy.read();
        int check = copy.check(0, 4);
        Expect.same("the reading of a file cut short", place, 6);
        Expect.same("check", check, vault.check(0, 4));
        Expect.same("bytes", many, vault.size());
    }
}
