import java.util.function.Supplier;

/** Tries one call on both sides of an edge that the document names, each time on an object of its own. */
final class Edge {
    /** A call with the one number that is tried. */
    interface Call {
        int on(SoundLaws laws, int number);
    }

    private final Due due;
    private final String sentence;
    private final Supplier<SoundLaws> made;
    private final Call call;

    Edge(Due due, String sentence, Supplier<SoundLaws> made, Call call) {
        this.due = due;
        this.sentence = sentence;
        this.made = made;
        this.call = call;
    }

    Edge taken(int number, int answer) {
        due.be(sentence + ", taken: " + number, call.on(made.get(), number), answer);
        return this;
    }

    /* Both neighbours of what is taken, and the farthest numbers that there are. */
    Edge refusedBeside(int least, int greatest, int refusal) {
        return refused(least - 1, refusal).refused(greatest + 1, refusal)
            .refused(Integer.MIN_VALUE, refusal).refused(Integer.MAX_VALUE, refusal);
    }

    /* Where there is nothing that a number could name. */
    Edge refusedAlways(int refusal) {
        return refused(0, refusal).refused(1, refusal).refusedBeside(0, 1, refusal);
    }

    Edge refused(int number, int refusal) {
        return changesNothing(number, refusal);
    }

    Edge changesNothing(int number, int answer) {
        String what = sentence + ", " + number;
        SoundLaws laws = made.get();
        due.be(what, call.on(laws, number), answer);
        goesOnAlike(what + ", changes nothing", laws, made.get());
        return this;
    }

    /* Nothing changed, if all is answered from then on as by a twin that never had the call. */
    private void goesOnAlike(String what, SoundLaws laws, SoundLaws twin) {
        due.be(what + ": digest", laws.digest(), twin.digest());
        due.be(what + ": fault", laws.fault(), twin.fault());
        for (int much = 0; much < 7; much++) due.be(what + ": see", laws.see(0, 3, false), twin.see(0, 3, false));
        due.be(what + ": sorts", laws.digest(), twin.digest());
        due.be(what + ": restore", laws.restore(), twin.restore());
        due.be(what + ": the image", laws.digest(), twin.digest());
        due.be(what + ": forget", laws.forget(), twin.forget());
        due.be(what + ": sets", laws.sets(), twin.sets());
        due.be(what + ": what was read", laws.digest(), twin.digest());
        due.be(what + ": blank", laws.blank(), twin.blank());
    }
}
