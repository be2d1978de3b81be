/** Counts the answers that are not the due ones, and tells each. */
final class Due {
    private int asked;
    private int wrong;

    void be(String call, long got, long want) {
        asked++;
        if (got == want) return;
        wrong++;
        if (wrong <= 40) System.out.println(call + " answered " + got + ", due is " + want);
    }

    void hold(String what, boolean holds) {
        be(what, holds ? 1 : 0, 1);
    }

    void end() {
        System.out.println(asked + " answers, " + wrong + " not as due");
        if (asked == 0 || wrong != 0) System.exit(1);
    }

    static int write(SoundLaws laws, String text) {
        int letters = laws.count(8);
        for (int at = 0; at < text.length(); at++) letters = laws.letter(text.charAt(at));
        return letters;
    }

    static SoundLaws read(String text) {
        SoundLaws laws = new SoundLaws();
        write(laws, text);
        if (laws.sets() < 1) throw new IllegalStateException("no sets: " + text);
        return laws;
    }
}
