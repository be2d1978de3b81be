import java.io.IOException;
import java.nio.file.Files;
import java.nio.file.Path;
import java.util.List;
import java.util.regex.Matcher;
import java.util.regex.Pattern;

/** Makes a program of README.md's example that compares each answer with the one told behind its call. */
public final class ReadmeExample {
    private static final Pattern TOLD =
        Pattern.compile("(laws\\.\\w+\\(.*?\\)); +// (?:(-?\\d+)|(NONE|UNKNOWN|OUTSIDE|STATE|FULL))(?::.*)?");

    private final StringBuilder body = new StringBuilder();
    private int told;

    private ReadmeExample() {
    }

    public static void main(String[] args) throws IOException {
        System.out.print(program(Files.readAllLines(Path.of("README.md"))));
    }

    static String program(List<String> readme) {
        ReadmeExample example = new ReadmeExample();
        boolean inside = false;
        for (int at = 0; at < readme.size(); at++) {
            String line = readme.get(at);
            if (line.startsWith("```")) inside = line.equals("```java");
            else if (inside) example.add(at + 1, line);
        }
        if (inside || example.told == 0) throw new IllegalStateException("README.md has no whole example");
        return example.whole();
    }

    private void add(int number, String line) {
        Matcher matcher = TOLD.matcher(line);
        if (matcher.matches()) {
            addTold(number, matcher);
        } else if (line.startsWith("laws.")) {
            // A call whose answer is not told would pass unseen.
            throw new IllegalStateException("README.md, line " + number + " tells no answer: " + line);
        } else {
            body.append("        ").append(line).append('\n');
        }
    }

    private void addTold(int number, Matcher line) {
        String call = line.group(1);
        String answer = line.group(2) != null ? line.group(2) + "L" : "SoundLaws." + line.group(3);
        String quoted = call.replace("\\", "\\\\").replace("\"", "\\\"");
        body.append("        due(").append(number).append(", \"").append(quoted).append("\", ");
        body.append(call).append(", ").append(answer).append(");\n");
        told++;
    }

    private String whole() {
        return "public final class ReadmeRun {\n"
            + "    private static int wrong;\n\n"
            + "    private static void due(int line, String call, long got, long told) {\n"
            + "        if (got == told) return;\n"
            + "        wrong++;\n"
            + "        System.out.println(\"README.md, line \" + line + \": \" + call + \" answers \" + got + \", told is \" + told);\n"
            + "    }\n\n"
            + "    public static void main(String[] args) {\n"
            + body
            + "        System.out.println(\"" + told + " answers, \" + wrong + \" not as README.md tells\");\n"
            + "        if (wrong != 0) System.exit(1);\n"
            + "    }\n"
            + "}\n";
    }
}
