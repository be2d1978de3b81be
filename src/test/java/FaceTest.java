import java.io.IOException;
import java.nio.file.Files;
import java.nio.file.Path;
import java.util.ArrayList;
import java.util.Arrays;
import java.util.List;

/** The public face, as the document writes it under "The public face", and what it says ahead of the calls. */
public final class FaceTest {
    private static final Due due = new Due();
    private static final String CONSTANTS =
        "    public static final int NONE = -1, UNKNOWN = -101, OUTSIDE = -102, STATE = -103, FULL = -104;";
    private static final String FACE = """
        public SoundLaws();
        // ---- the sets
        public int letter(int code);
        public int blank();
        public int fault();
        public int sets();
        public int set(int set, int what);
        public int as(int set, int kind);
        public int sound(int set, int node, int place);
        // ---- laws
        public int law(int tongue, int sound, int ahead, int what);
        public int strange(int set, int tongue);
        public int say(int set, int tongue, int place);
        public int line(int one, int first, int other, int second);
        public int cost(int one, int other);
        // ---- what is done
        public int put(int set, int tongue, int place, int sound);
        public int copy(int set);
        public int take(int set);
        public int change(int set, int kind);
        public int swap(int one, int other);
        // ---- what is seen
        public int see(int set, int what, boolean could);
        public int forget();
        public int drawn(int times, int seed, int what);
        // ---- what is told of all
        public int image();
        public int restore();
        public int count(int what);
        public long digest();
        """;

    public static void main(String[] args) throws IOException {
        List<String> source = Files.readAllLines(Path.of("src/main/java/SoundLaws.java"));
        head(source);
        callsInTheirOrder(source);
        constants();
        due.end();
    }

    private static void head(List<String> source) {
        due.hold("public final class SoundLaws", source.contains("public final class SoundLaws {"));
        due.hold("the constants", source.contains(CONSTANTS));
        due.hold("no package", source.stream().noneMatch(line -> line.startsWith("package")));
    }

    private static void callsInTheirOrder(List<String> source) {
        List<String> found = new ArrayList<>();
        for (String line : source) {
            boolean isCall = line.startsWith("    public ") && !line.equals(CONSTANTS);
            if (isCall || line.startsWith("    // ----")) found.add(line.trim().replace(" {", ";"));
        }
        List<String> want = Arrays.asList(FACE.split("\n"));
        due.be("lines of the face", found.size(), want.size());
        for (int at = 0; at < Math.min(found.size(), want.size()); at++) {
            due.hold(want.get(at) + ", not " + found.get(at), want.get(at).equals(found.get(at)));
        }
    }

    private static void constants() {
        due.be("NONE", SoundLaws.NONE, -1);
        due.be("UNKNOWN", SoundLaws.UNKNOWN, -101);
        due.be("OUTSIDE", SoundLaws.OUTSIDE, -102);
        due.be("STATE", SoundLaws.STATE, -103);
        due.be("FULL", SoundLaws.FULL, -104);
    }
}
