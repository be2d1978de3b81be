import java.io.File;
import java.io.IOException;
import java.lang.reflect.Field;
import java.lang.reflect.Method;
import java.lang.reflect.Modifier;
import java.nio.file.Files;
import java.nio.file.Path;
import java.util.Arrays;
import java.util.List;

/** README.md names all that there is to use, and its example is made a program that can fail. */
public final class ReadmeTest {
    private static final Due due = new Due();

    public static void main(String[] args) throws IOException, IllegalAccessException {
        String readme = Files.readString(Path.of("README.md"));
        callsOfTheExample(readme);
        constants(readme);
        words(readme);
        tests(readme);
        programOfAnExample();
        noProgram();
        due.end();
    }

    private static void callsOfTheExample(String readme) {
        String example = readme.substring(readme.indexOf("```java"), readme.lastIndexOf("```"));
        for (Method method : SoundLaws.class.getDeclaredMethods()) {
            if (!Modifier.isPublic(method.getModifiers())) continue;
            String call = "laws." + method.getName() + "(";
            due.hold("the example has the call " + method.getName(), example.contains(call));
        }
    }

    private static void constants(String readme) throws IllegalAccessException {
        for (Field field : SoundLaws.class.getDeclaredFields()) {
            if (!Modifier.isPublic(field.getModifiers())) continue;
            String row = "`" + field.getName() + "` | " + field.getInt(null) + " |";
            String word = "`" + field.getName() + "` (" + field.getInt(null) + ")";
            due.hold("README.md tells " + word, readme.contains(row) || readme.contains(word));
        }
    }

    private static void words(String readme) {
        for (String word : List.of("at most 512 calls", "    .ci/run", "`javac`", "`../shared`", "new SoundLaws()")) {
            due.hold("README.md tells " + word, readme.contains(word));
        }
    }

    private static void tests(String readme) {
        String[] names = new File("src/test/java").list();
        due.hold("there are tests", names != null && names.length > 0);
        if (names == null) return;
        for (String name : names) {
            String bare = name.replace(".java", "");
            due.hold("README.md tells of " + bare, !bare.endsWith("Test") || readme.contains("| `" + bare + "` |"));
        }
    }

    private static boolean has(String program, String line) {
        return Arrays.asList(program.split("\n")).contains("        " + line);
    }

    private static void programOfAnExample() {
        String program = ReadmeExample.program(List.of("laws.copy(1);", "```java", "SoundLaws laws = new SoundLaws();",
            "laws.sets();    // STATE: no page", "```", "laws.copy(2);", "```java", "laws.count(0); // 0", "",
            "laws.digest(); // -45: all", "```", "laws.copy(3);"));
        due.hold("what tells nothing is as it was", has(program, "SoundLaws laws = new SoundLaws();"));
        due.hold("a constant is told", has(program, "due(4, \"laws.sets()\", laws.sets(), SoundLaws.STATE);"));
        due.hold("a number is told", has(program, "due(8, \"laws.count(0)\", laws.count(0), 0L);"));
        due.hold("a number below 0 is told", has(program, "due(10, \"laws.digest()\", laws.digest(), -45L);"));
        due.hold("the text around it is left out", !program.contains("laws.copy"));
        due.hold("how many are told", program.contains("\"3 answers, \""));
    }

    private static void noProgram() {
        refused("no example", "laws.sets(); // 3");
        refused("an example without a call", "```java", "int one = 1;", "```");
        refused("an example without an end", "```java", "laws.sets(); // 3");
        refused("no answer told", "```java", "laws.sets(); // 3", "laws.sets();", "```");
        refused("an answer that is none", "```java", "laws.sets(); // 3", "laws.sets(); // three", "```");
        refused("a name that is no constant", "```java", "laws.sets(); // 3", "laws.sets(); // NOTHING: so", "```");
        refused("two calls in a line", "```java", "laws.sets(); // 3", "laws.sets(); laws.sets();", "```");
    }

    private static void refused(String what, String... lines) {
        boolean refused = false;
        try {
            ReadmeExample.program(List.of(lines));
        } catch (IllegalStateException expected) {
            refused = true;
        }
        due.hold("no program is made: " + what, refused);
    }
}
