import java.util.Random;

/** Long runs of calls, most of them sensible and some wrong, answered by the class and by the model alike. */
public final class ModelTest {
    private static final int RUNS = 600, CALLS = 512;
    private static final int[] EDGES = {-1, 0, 1, 9, 10, 40, 41, 127, Integer.MIN_VALUE, Integer.MAX_VALUE};
    private static final Due due = new Due();

    private final Random random;
    private final SoundLaws laws = new SoundLaws();
    private final Model model = new Model();
    private final StringBuilder told = new StringBuilder();
    private int calls;

    private ModelTest(long seed) {
        random = new Random(seed);
    }

    public static void main(String[] args) {
        for (int run = 0; run < RUNS; run++) new ModelTest(run).run();
        due.end();
    }

    private void run() {
        if (random.nextInt(8) > 0) readSets();
        while (calls < CALLS - 120) {
            step(random.nextInt(28));
            if (random.nextInt(12) == 0) check("digest()", laws.digest(), model.digest());
        }
        check("digest()", laws.digest(), model.digest());
    }

    private void check(String call, long got, long want) {
        calls++;
        told.append(call).append(' ');
        due.be(got == want ? call : told.toString(), got, want);
    }

    /* A number below the bound as a rule, a wrong one now and then. */
    private int below(int bound) {
        if (random.nextInt(20) == 0) return EDGES[random.nextInt(EDGES.length)];
        return random.nextInt(random.nextInt(8) == 0 ? bound + 1 : bound);
    }

    private int someSet() {
        return below(Math.max(1, model.count(0)));
    }

    private int someTongue() {
        return below(Math.max(2, model.count(1)));
    }

    private int somePlace(int set) {
        return below(Math.max(1, model.set(set, 1)));
    }

    private void readSets() {
        check("blank()", laws.blank(), model.blank());
        String text = text();
        for (int at = 0; at < text.length(); at++) letter(text.charAt(at));
        check("fault()", laws.fault(), model.fault());
        check("sets()", laws.sets(), model.sets());
    }

    private void letter(int code) {
        check("letter(" + code + ")", laws.letter(code), model.letter(code));
    }

    private String text() {
        int tongues = 2 + random.nextInt(3);
        StringBuilder text = new StringBuilder();
        int many = 1 + random.nextInt(random.nextInt(10) == 0 ? 6 : 5);
        String few = random.nextInt(3) == 0 ? ".aeoptksf" : "apt";
        for (int set = 0; set < many; set++) {
            text.append(set == 0 ? "" : ",").append(random.nextInt(2) == 0 ? 'w' : "wncld".charAt(random.nextInt(5)));
            int length = 1 + random.nextInt(4);
            for (int at = 0; at < tongues * length; at++) {
                if (at > 0 && at % length == 0) text.append('/');
                text.append(few.charAt(random.nextInt(few.length())));
            }
        }
        if (random.nextInt(4) == 0) spoil(text);
        return text.toString();
    }

    private void spoil(StringBuilder text) {
        String signs = ".aeoptksf/,wncld/,x";
        int at = random.nextInt(text.length());
        char sign = signs.charAt(random.nextInt(signs.length()));
        switch (random.nextInt(4)) {
            case 0 -> text.setCharAt(at, sign);
            case 1 -> text.insert(at, sign);
            case 2 -> text.deleteCharAt(at);
            default -> text.setLength(at);
        }
    }

    private void step(int which) {
        if (which < 8) stepOfSets(which);
        else if (which < 14) stepOfLaws(which);
        else if (which < 21) stepOfDoing(which);
        else stepOfRest(which);
    }

    private void stepOfSets(int which) {
        int set = someSet();
        switch (which) {
            case 0 -> letter(random.nextInt(3) == 0 ? below(127) : "wa/p,.".charAt(random.nextInt(6)));
            case 1 -> check("fault()", laws.fault(), model.fault());
            case 2 -> check("sets()", laws.sets(), model.sets());
            case 3 -> {
                if (random.nextInt(4) == 0) readSets();
            }
            case 4 -> {
                int what = below(7);
                check("set(" + set + ", " + what + ")", laws.set(set, what), model.set(set, what));
            }
            case 5 -> {
                int kind = below(5);
                check("as(" + set + ", " + kind + ")", laws.as(set, kind), model.as(set, kind));
            }
            case 6 -> {
                if (random.nextInt(4) == 0) check("blank()", laws.blank(), model.blank());
            }
            default -> {
                int node = below(Math.max(1, model.count(2)));
                int place = somePlace(set);
                String call = "sound(" + set + ", " + node + ", " + place + ")";
                check(call, laws.sound(set, node, place), model.sound(set, node, place));
            }
        }
    }

    private void stepOfLaws(int which) {
        int set = someSet();
        int tongue = someTongue();
        switch (which) {
            case 8, 9 -> {
                int sound = below(9);
                int ahead = below(2);
                int what = below(3);
                String call = "law(" + tongue + ", " + sound + ", " + ahead + ", " + what + ")";
                check(call, laws.law(tongue, sound, ahead, what), model.law(tongue, sound, ahead, what));
            }
            case 10 -> check("strange(" + set + ", " + tongue + ")", laws.strange(set, tongue), model.strange(set, tongue));
            case 11 -> {
                int place = somePlace(set);
                String call = "say(" + set + ", " + tongue + ", " + place + ")";
                check(call, laws.say(set, tongue, place), model.say(set, tongue, place));
            }
            case 12 -> {
                int other = someSet();
                int second = someTongue();
                String call = "line(" + set + ", " + tongue + ", " + other + ", " + second + ")";
                check(call, laws.line(set, tongue, other, second), model.line(set, tongue, other, second));
            }
            default -> {
                int one = below(9);
                int other = below(9);
                check("cost(" + one + ", " + other + ")", laws.cost(one, other), model.cost(one, other));
            }
        }
    }

    private void stepOfDoing(int which) {
        int set = someSet();
        int tongue = someTongue();
        switch (which) {
            case 14, 15, 16 -> {
                int place = somePlace(set);
                int sound = below(9);
                String call = "put(" + set + ", " + tongue + ", " + place + ", " + sound + ")";
                check(call, laws.put(set, tongue, place, sound), model.put(set, tongue, place, sound));
            }
            case 17 -> check("copy(" + set + ")", laws.copy(set), model.copy(set));
            case 18 -> check("take(" + set + ")", laws.take(set), model.take(set));
            case 19 -> {
                int kind = below(5);
                check("change(" + set + ", " + kind + ")", laws.change(set, kind), model.change(set, kind));
            }
            default -> {
                int other = someTongue();
                check("swap(" + tongue + ", " + other + ")", laws.swap(tongue, other), model.swap(tongue, other));
            }
        }
    }

    private void stepOfRest(int which) {
        switch (which) {
            case 21, 22 -> {
                int set = someSet();
                int what = below(4);
                boolean could = random.nextBoolean();
                String call = "see(" + set + ", " + what + ", " + could + ")";
                check(call, laws.see(set, what, could), model.see(set, what, could));
            }
            case 23 -> {
                if (random.nextInt(4) == 0) check("forget()", laws.forget(), model.forget());
            }
            case 24 -> {
                int times = below(41);
                int seed = random.nextInt(6) == 0 ? below(3) : random.nextInt() & 0x7fffffff;
                int what = below(3);
                String call = "drawn(" + times + ", " + seed + ", " + what + ")";
                check(call, laws.drawn(times, seed, what), model.drawn(times, seed, what));
            }
            case 25 -> check("image()", laws.image(), model.image());
            case 26 -> check("restore()", laws.restore(), model.restore());
            default -> {
                int what = below(10);
                check("count(" + what + ")", laws.count(what), model.count(what));
            }
        }
    }
}
