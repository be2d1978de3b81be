import java.math.BigInteger;
import java.util.function.Supplier;

/**
 * The edges that each promise names: the last number that is taken, the first that is not, on both sides; and
 * of each refused call, that it changes nothing. Each method bears the promise's number.
 */
public final class EdgesTest {
    private static final int NONE = -1, UNKNOWN = -101, OUTSIDE = -102, STATE = -103, FULL = -104;
    private static final int LOW = Integer.MIN_VALUE, HIGH = Integer.MAX_VALUE;
    private static final Due due = new Due();

    public static void main(String[] args) {
        newObject1();
        letter2();
        blank3();
        fault4();
        sets5();
        sets5EveryPiece();
        set6();
        set6Answers();
        as7();
        sound8();
        law9();
        strange10();
        say11();
        line12();
        cost13();
        put14();
        put14Alone();
        copy15();
        take16();
        change17();
        swap18();
        see19();
        forget20();
        drawn21();
        image22();
        restore23();
        count24();
        digest25();
        severalRefusals();
        calls512();
        laterCalls();
        due.end();
    }

    private static Edge edge(String sentence, Supplier<SoundLaws> made, Edge.Call call) {
        return new Edge(due, sentence, made, call);
    }

    /*
     * Four sets of three tongues: lengths 2, 3, 1, 4; of the second nothing is rebuilt. Two things are seen, the
     * image is of what was before the last two, and the page is a text.
     */
    private static SoundLaws rich() {
        SoundLaws laws = Due.read("wpa/fa/pa,lkos/sos/kos,nt/t/k,dptka/ftka/ptka");
        laws.see(0, 0, true);
        laws.image();
        laws.see(2, 1, false);
        laws.put(0, 1, 0, 6);
        Due.write(laws, "wa/e");
        return laws;
    }

    private static SoundLaws fullPage() {
        SoundLaws laws = rich();
        for (int letters = 4; letters < 110; letters++) laws.letter('a');
        return laws;
    }

    private static SoundLaws sixSets() {
        SoundLaws laws = rich();
        laws.copy(0);
        laws.copy(1);
        return laws;
    }

    private static SoundLaws oneSet() {
        SoundLaws laws = rich();
        for (int set = 3; set > 0; set--) laws.take(set);
        return laws;
    }

    private static SoundLaws sixSeen() {
        SoundLaws laws = rich();
        for (int much = 2; much < 6; much++) laws.see(much % 4, 2, false);
        return laws;
    }

    private static SoundLaws readAnew(String text) {
        SoundLaws laws = rich();
        laws.sets();
        laws.image();
        laws.see(0, 1, true);
        Due.write(laws, text);
        return laws;
    }

    private static void newObject1() {
        String sentence = "1 \"No SETS.\"";
        edge(sentence + " set", SoundLaws::new, (x, set) -> x.set(set, 0)).refusedAlways(UNKNOWN);
        edge(sentence + " as", SoundLaws::new, (x, set) -> x.as(set, 0)).refusedAlways(UNKNOWN);
        edge(sentence + " sound", SoundLaws::new, (x, set) -> x.sound(set, 0, 0)).refusedAlways(UNKNOWN);
        edge(sentence + " law", SoundLaws::new, (x, tongue) -> x.law(tongue, 0, 0, 0)).refusedAlways(UNKNOWN);
        edge(sentence + " strange", SoundLaws::new, (x, set) -> x.strange(set, 0)).refusedAlways(UNKNOWN);
        edge(sentence + " say", SoundLaws::new, (x, set) -> x.say(set, 0, 0)).refusedAlways(UNKNOWN);
        edge(sentence + " line", SoundLaws::new, (x, set) -> x.line(set, 0, set, 0)).refusedAlways(UNKNOWN);
        edge(sentence + " put", SoundLaws::new, (x, set) -> x.put(set, 0, 0, 1)).refusedAlways(UNKNOWN);
        edge(sentence + " copy", SoundLaws::new, SoundLaws::copy).refusedAlways(UNKNOWN);
        edge(sentence + " take", SoundLaws::new, SoundLaws::take).refusedAlways(UNKNOWN);
        edge(sentence + " change", SoundLaws::new, (x, set) -> x.change(set, 0)).refusedAlways(UNKNOWN);
        edge(sentence + " swap", SoundLaws::new, (x, one) -> x.swap(one, 1)).refusedAlways(UNKNOWN);
        edge(sentence + " see", SoundLaws::new, (x, set) -> x.see(set, 0, true)).refusedAlways(UNKNOWN);
        for (int what = 0; what <= 9; what++) due.be(sentence + " count", new SoundLaws().count(what), 0);
    }

    private static void letter2() {
        edge("2 \"OUTSIDE: code (1 to 126)\"", EdgesTest::rich, SoundLaws::letter)
            .taken(1, 5).taken(126, 5).refusedBeside(1, 126, OUTSIDE);
        SoundLaws laws = fullPage();
        due.be("2 \"FULL: above 110\", the page has 110", laws.blank(), 110);
        for (int letters = 1; letters <= 110; letters++) due.be("2 letter " + letters, laws.letter('w'), letters);
        due.be("2 \"FULL: above 110\", one more", laws.letter('w'), FULL);
        edge("2 \"FULL: above 110\"", EdgesTest::fullPage, SoundLaws::letter).refused(1, FULL).refused(126, FULL);
        laws = new SoundLaws();
        for (int code = 1; code <= 126; code++) {
            laws.blank();
            laws.letter(code);
            due.be("2 \"by its code\", " + code, laws.digest(), ofOneLetter(code));
        }
    }

    /* A new object's digest with one letter: the letter, then ten counts of which the ninth is 1. */
    private static long ofOneLetter(int code) {
        long hash = 1459L * 31 + code;
        for (int what = 0; what <= 9; what++) hash = 31 * hash + (what == 8 ? 1 : 0);
        return hash;
    }

    private static void blank3() {
        due.be("3 of an empty page", new SoundLaws().blank(), 0);
        SoundLaws laws = new SoundLaws();
        laws.letter('w');
        due.be("3 of one letter", laws.blank(), 1);
        due.be("3 twice", laws.blank(), 0);
        laws = fullPage();
        due.be("3 of a full page", laws.blank(), 110);
        due.be("3 \"THE PAGE is empty\"", laws.count(8), 0);
        due.be("3 a letter is taken again", laws.letter('d'), 1);
        due.be("3 the old letters do not come back", laws.fault(), 1);
        laws = rich();
        laws.blank();
        due.be("3 the sets stay", laws.count(0), 4);
        due.be("3 what is seen stays", laws.count(7), 2);
        due.be("3 the image stays", laws.restore(), 4);
    }

    private static void fault(String text, int place) {
        edge("4 fault of \"" + text + "\"", () -> readAnew(text), (x, unused) -> x.fault()).changesNothing(0, place);
    }

    private static void fault4() {
        fault("", 0);
        fault("x", 0);
        fault("w", 1);
        fault("wx", 1);
        fault("wxw", 1);
        fault("wa/", 3);
        fault("wa/x", 3);
        fault("w./.", 4);
        fault("w..../....,w./.", 15);
        String longest = "w..../..../..../....,nptks/ptks/ptks/ptks,caeof/aeof/aeof/aeof,l.a.e/.a.e/.a.e/.a.e,dffff/ffff/ffff/ffff";
        fault(longest, 104);
        fault(longest + ",", 104);
        fault(longest + "ffffff", 104);
        fault("x" + longest + "aaaaa", 0);
        fault(longest.substring(0, 103) + "/ffffff", 103);
    }

    private static void sets5() {
        for (String text : new String[] {"", "w", "wa", "wa/", "wp/a,", "wp/a,w", "w./a", "wa/.", "wa/a,n./a", "wa/ex", "x"}) {
            edge("5 \"STATE: it is none\", \"" + text + "\"", () -> readAnew(text), (x, unused) -> x.sets()).refused(0, STATE);
        }
        edge("5 \"STATE: it is none\", a full page", EdgesTest::fullPage, (x, unused) -> x.sets()).refused(0, STATE);
        SoundLaws laws = rich();
        due.be("5 \"how many\"", laws.sets(), 1);
        due.be("5 \"THE PAGE is empty then\"", laws.count(8), 0);
        due.be("5 \"others are gone\"", laws.count(0), 1);
        due.be("5 as many tongues as it tells", laws.count(1), 2);
        due.be("5 \"with all that was\", seen", laws.count(7), 0);
        due.be("5 \"with all that was\", the image", laws.restore(), STATE);
        due.be("5 the sets of the text stay", laws.sound(0, 1, 0), 2);
        due.be("5 once more, of an empty page", laws.sets(), STATE);
        due.be("5 it was read twice", laws.count(9), 2);
        laws = Due.read("wa/a/a/a,wa/a/a/a,wa/a/a/a,wa/a/a/a,wa/a/a/a");
        laws.copy(0);
        Due.write(laws, "dp/f");
        due.be("5 one behind six", laws.sets(), 1);
        due.be("5 the second of six is gone", laws.set(1, 0), UNKNOWN);
        due.be("5 the third tongue is gone", laws.sound(0, 3, 0), UNKNOWN);
        due.be("5 their laws are gone", laws.count(4), 2);
        due.be("5 its own law", laws.law(1, 4, 1, 0), 8);
    }

    /* Each text that is a piece of this one, cut off behind, is whole or is none. */
    private static void sets5EveryPiece() {
        String text = "wpa/f./.a,cp/t/k,dptks/f.../...f";
        int[] whole = {6, 9, 16, 32};
        int[] many = {1, 1, 2, 3};
        for (int end = 0; end <= text.length(); end++) {
            int answer = STATE;
            for (int at = 0; at < whole.length; at++) if (whole[at] == end) answer = many[at];
            SoundLaws laws = new SoundLaws();
            Due.write(laws, text.substring(0, end));
            due.be("5 a piece of " + end, laws.sets(), answer);
            due.be("5 the page of a piece of " + end, laws.count(8), answer == STATE ? end : 0);
            due.be("5 the readings of a piece of " + end, laws.count(9), answer == STATE ? 0 : 1);
        }
    }

    private static void set6() {
        edge("6 \"UNKNOWN\"", EdgesTest::rich, (x, set) -> x.set(set, 1))
            .taken(0, 2).taken(3, 4).refusedBeside(0, 3, UNKNOWN);
        edge("6 \"OUTSIDE\"", EdgesTest::rich, (x, what) -> x.set(0, what))
            .taken(0, 0).taken(1, 2).taken(2, 1).taken(3, 1).taken(4, 0).taken(5, 17).taken(6, 2).refusedBeside(0, 6, OUTSIDE);
        edge("6 \"UNKNOWN\", of six", EdgesTest::sixSets, (x, set) -> x.set(set, 1)).taken(5, 3).refused(6, UNKNOWN);
        edge("6 \"UNKNOWN\", of one", EdgesTest::oneSet, (x, set) -> x.set(set, 1)).taken(0, 2).refused(1, UNKNOWN);
    }

    private static void set6Answers() {
        SoundLaws laws = Due.read("wp/p,np/p,cp/p,lp/p,dp/p");
        int[] changes = {0, 0, NONE, NONE, 0};
        for (int set = 0; set < 5; set++) due.be("6 \"NONE: nothing is REBUILT\", " + set, laws.set(set, 2), changes[set]);
        laws = Due.read("dp/p,dp/p,wp/f");
        due.be("6 a plain one, strange", laws.set(2, 3) * 10 + laws.set(2, 4), 12);
        laws.change(2, 3);
        due.be("6 of a loan nothing is strange", laws.set(2, 3), 0);
        due.be("6 of a loan nothing is borrowed", laws.set(2, 4), 0);
        laws = Due.read("w.p.p/p.p./.p.p/p.p.");
        due.be("6 the most changes, \"of all its PLACES\"", laws.set(0, 2), 24);
        laws = Due.read("wp/t/k/s,wt/p/k/s,wt/t/p/k,np/p/p/p");
        due.be("6 strange \"in all its WORDS\"", laws.set(3, 3), 4);
        due.be("6 \"BORROWED TONGUES, as bits\", all four", laws.set(3, 4), 15);
        due.be("6 \"BORROWED TONGUES, as bits\", the first", laws.set(0, 4), 1);
        due.be("6 \"BORROWED TONGUES, as bits\", the last two", laws.set(2, 4), 4 + 8);
        laws.see(3, 0, true);
        due.be("6 ask, of two sorts", laws.set(3, 6), 2);
        laws.see(3, 2, true);
        due.be("6 ask, of one sort", laws.set(3, 6), 0);
        laws.see(3, 3, true);
        due.be("6 sorts, of none", laws.set(3, 5), 0);
        due.be("6 \"6 ASK (NONE)\", of none", laws.set(3, 6), NONE);
    }

    private static void as7() {
        edge("7 \"UNKNOWN\"", EdgesTest::rich, (x, set) -> x.as(set, 0))
            .taken(0, 0).taken(3, 3).refusedBeside(0, 3, UNKNOWN);
        edge("7 \"OUTSIDE\"", EdgesTest::rich, (x, kind) -> x.as(3, kind))
            .taken(0, 3).taken(1, NONE).taken(2, NONE).taken(3, NONE).taken(4, 3).refusedBeside(0, 4, OUTSIDE);
        SoundLaws laws = Due.read("wa/a,na/a,ca/a,la/a,da/a");
        due.be("7 \"a CRY is a NAME, too\"", laws.as(2, 1), 2);
        due.be("7 a name is no cry", laws.as(1, 2), NONE);
        due.be("7 \"All are SETS\"", laws.as(4, 0), 4);
        due.be("7 a plain one is no old one", laws.as(0, 4), NONE);
    }

    private static void sound8() {
        edge("8 \"UNKNOWN: set\"", EdgesTest::rich, (x, set) -> x.sound(set, 0, 0))
            .taken(0, 4).taken(3, 4).refusedBeside(0, 3, UNKNOWN);
        edge("8 \"UNKNOWN: node\", of two", () -> Due.read("wp/a"), (x, node) -> x.sound(0, node, 0))
            .taken(0, 4).taken(1, 1).taken(2, 1).refusedBeside(0, 2, UNKNOWN);
        edge("8 \"UNKNOWN: node\", of three", EdgesTest::rich, (x, node) -> x.sound(0, node, 0))
            .taken(0, 4).taken(1, 6).taken(2, 4).taken(3, 4).taken(4, 4).refusedBeside(0, 4, UNKNOWN);
        edge("8 \"UNKNOWN: node\", of four", () -> Due.read("wf/s/k/t"), (x, node) -> x.sound(0, node, 0))
            .taken(0, 8).taken(3, 5).taken(4, 5).taken(6, 5).refusedBeside(0, 6, UNKNOWN);
        edge("8 \"UNKNOWN: place\", of four", EdgesTest::rich, (x, place) -> x.sound(3, 0, place))
            .taken(0, 4).taken(3, 1).refusedBeside(0, 3, UNKNOWN);
        edge("8 \"UNKNOWN: place\", of one", EdgesTest::rich, (x, place) -> x.sound(2, 4, place))
            .taken(0, 5).refusedBeside(0, 0, UNKNOWN);
        edge("8 \"NONE: it is no TONGUE, and nothing is REBUILT\"", EdgesTest::rich, (x, node) -> x.sound(1, node, 2))
            .taken(0, 7).taken(2, 7).taken(3, NONE).taken(4, NONE).refusedBeside(0, 4, UNKNOWN);
        edge("8 no place, nothing rebuilt", EdgesTest::rich, (x, place) -> x.sound(1, 4, place))
            .taken(2, NONE).refused(3, UNKNOWN);
    }

    private static void law9() {
        edge("9 \"UNKNOWN: tongue\"", EdgesTest::rich, (x, tongue) -> x.law(tongue, 4, 1, 0))
            .taken(0, 4).taken(1, 8).taken(2, 4).refusedBeside(0, 2, UNKNOWN);
        edge("9 \"UNKNOWN: tongue\", of two", () -> Due.read("wf/f"), (x, tongue) -> x.law(tongue, 8, 1, 1))
            .taken(1, 1).refused(2, UNKNOWN);
        edge("9 \"UNKNOWN: tongue\", of four", () -> Due.read("wf/f/f/f"), (x, tongue) -> x.law(tongue, 8, 1, 1))
            .taken(3, 1).refused(4, UNKNOWN);
        edge("9 \"sound (0 to 8)\"", () -> Due.read("w.f/.f,wf./f."), (x, sound) -> x.law(1, sound, 1, 0))
            .taken(0, 0).taken(1, NONE).taken(8, 8).refusedBeside(0, 8, UNKNOWN);
        edge("9 \"sound (0 to 8)\", not ahead", () -> Due.read("w.f/.f,wf./f."), (x, sound) -> x.law(0, sound, 0, 0))
            .taken(0, 0).taken(1, NONE).taken(8, 8).refusedBeside(0, 8, UNKNOWN);
        edge("9 \"ahead (1, or 0: not)\"", EdgesTest::rich, (x, ahead) -> x.law(1, 4, ahead, 0))
            .taken(0, NONE).taken(1, 8).refusedBeside(0, 1, OUTSIDE);
        edge("9 \"what\"", EdgesTest::rich, (x, what) -> x.law(1, 4, 1, what))
            .taken(0, 8).taken(1, 2).taken(2, 1).refusedBeside(0, 2, OUTSIDE);
        edge("9 \"(NONE)\", \"(0, if there is none)\"", EdgesTest::rich, (x, what) -> x.law(1, 4, 0, what))
            .taken(0, NONE).taken(1, 0).taken(2, 0).refusedBeside(0, 2, OUTSIDE);
    }

    private static void strange10() {
        edge("10 \"UNKNOWN: set\"", EdgesTest::rich, (x, set) -> x.strange(set, 1))
            .taken(0, 1).taken(3, 0).refusedBeside(0, 3, UNKNOWN);
        edge("10 \"UNKNOWN: tongue\"", EdgesTest::rich, (x, tongue) -> x.strange(0, tongue))
            .taken(0, 0).taken(1, 1).taken(2, 0).refusedBeside(0, 2, UNKNOWN);
        edge("10 \"STATE: nothing is REBUILT\"", EdgesTest::rich, (x, set) -> x.strange(set, 0))
            .taken(0, 0).refused(1, STATE).taken(2, 0);
        edge("10 \"STATE: nothing is REBUILT\", of kinds", () -> Due.read("wp/f,np/f,cp/f,lp/f,dp/f"), (x, set) -> x.strange(set, 1))
            .taken(0, 0).taken(1, 0).refused(2, STATE).refused(3, STATE).taken(4, 0);
        SoundLaws most = Due.read("dpppp/pppp,nptks/tttt,npppp/tttt");
        due.be("10 all four places", most.strange(2, 1), 4);
        due.be("10 none of four", most.strange(0, 1), 0);
        SoundLaws first = Due.read("dp/p,nt/p");
        due.be("10 of the first tongue", first.strange(1, 0), 1);
        first.put(0, 1, 0, 8);
        due.be("10 of the first tongue, once more", first.strange(1, 0), 1);
        due.be("10 of the second tongue, now", first.strange(1, 1), 1);
    }

    private static void say11() {
        edge("11 \"UNKNOWN: set\"", EdgesTest::rich, (x, set) -> x.say(set, 1, 0))
            .taken(0, 8).taken(3, 8).refusedBeside(0, 3, UNKNOWN);
        edge("11 \"UNKNOWN: tongue\"", EdgesTest::rich, (x, tongue) -> x.say(0, tongue, 0))
            .taken(0, 4).taken(1, 8).taken(2, 4).refusedBeside(0, 2, UNKNOWN);
        edge("11 \"UNKNOWN: place\", of four", EdgesTest::rich, (x, place) -> x.say(3, 1, place))
            .taken(0, 8).taken(3, 1).refusedBeside(0, 3, UNKNOWN);
        edge("11 \"UNKNOWN: place\", of one", EdgesTest::rich, (x, place) -> x.say(2, 1, place))
            .taken(0, 5).refusedBeside(0, 0, UNKNOWN);
        edge("11 \"STATE: nothing is REBUILT\"", EdgesTest::rich, (x, set) -> x.say(set, 0, 0))
            .taken(0, 4).refused(1, STATE).taken(2, 5);
        edge("11 \"STATE: nothing is REBUILT\", of kinds", () -> Due.read("wp/f,np/f,cp/f,lp/f,dp/f"), (x, set) -> x.say(set, 1, 0))
            .taken(0, 8).taken(1, 8).refused(2, STATE).refused(3, STATE).taken(4, 8);
    }

    private static void line12() {
        edge("12 \"UNKNOWN: one\"", EdgesTest::rich, (x, one) -> x.line(one, 0, 0, 0))
            .taken(0, 0).taken(3, 6).refusedBeside(0, 3, UNKNOWN);
        edge("12 \"first (its TONGUE)\"", EdgesTest::rich, (x, first) -> x.line(0, first, 0, 0))
            .taken(0, 0).taken(1, 1).taken(2, 0).refusedBeside(0, 2, UNKNOWN);
        edge("12 \"other\"", EdgesTest::rich, (x, other) -> x.line(0, 0, other, 0))
            .taken(0, 0).taken(3, 6).refusedBeside(0, 3, UNKNOWN);
        edge("12 \"second\"", EdgesTest::rich, (x, second) -> x.line(0, 0, 0, second))
            .taken(0, 0).taken(1, 1).taken(2, 0).refusedBeside(0, 2, UNKNOWN);
        edge("12 of a set that is not rebuilt", EdgesTest::rich, (x, one) -> x.line(one, 0, 1, 2))
            .taken(1, 0).refused(4, UNKNOWN);
    }

    private static void cost13() {
        edge("13 \"UNKNOWN: one (0 to 8)\"", SoundLaws::new, (x, one) -> x.cost(one, 1))
            .taken(0, 3).taken(8, 2).refusedBeside(0, 8, UNKNOWN);
        edge("13 \"UNKNOWN: other (0 to 8)\"", EdgesTest::rich, (x, other) -> x.cost(1, other))
            .taken(0, 3).taken(8, 2).refusedBeside(0, 8, UNKNOWN);
        edge("13 the same, yet none", EdgesTest::rich, (x, both) -> x.cost(both, both))
            .taken(0, 0).taken(8, 0).refusedBeside(0, 8, UNKNOWN);
    }

    private static void put14() {
        edge("14 \"UNKNOWN: set\"", EdgesTest::rich, (x, set) -> x.put(set, 0, 0, 7))
            .taken(0, 4).taken(3, 4).refusedBeside(0, 3, UNKNOWN);
        edge("14 \"UNKNOWN: tongue\"", EdgesTest::rich, (x, tongue) -> x.put(0, tongue, 0, 7))
            .taken(0, 4).taken(1, 6).taken(2, 4).refusedBeside(0, 2, UNKNOWN);
        edge("14 \"UNKNOWN: place\", of four", EdgesTest::rich, (x, place) -> x.put(3, 0, place, 7))
            .taken(0, 4).taken(3, 1).refusedBeside(0, 3, UNKNOWN);
        edge("14 \"UNKNOWN: place\", of one", EdgesTest::rich, (x, place) -> x.put(2, 0, place, 7))
            .taken(0, 5).refusedBeside(0, 0, UNKNOWN);
        edge("14 \"OUTSIDE: sound (0 to 8)\"", EdgesTest::rich, (x, sound) -> x.put(0, 0, 0, sound))
            .taken(0, 4).taken(8, 4).refusedBeside(0, 8, OUTSIDE);
        for (int sound = 0; sound <= 8; sound++) {
            SoundLaws laws = rich();
            laws.put(3, 2, 3, sound);
            due.be("14 it stands there: " + sound, laws.sound(3, 2, 3), sound);
        }
    }

    /* The only sound of a word, at each place of it. */
    private static void put14Alone() {
        for (int length = 1; length <= 4; length++) {
            for (int only = 0; only < length; only++) {
                String silent = "....".substring(0, length);
                String word = silent.substring(0, only) + "k" + silent.substring(only + 1);
                Supplier<SoundLaws> made = () -> Due.read("w" + "ptks".substring(0, word.length()) + "/" + word);
                Edge edge = edge("14 \"the WORD would be \".\" alone\", " + word, made, (x, place) -> x.put(0, 1, place, 0));
                for (int place = 0; place < length; place++) {
                    if (place == only) edge.refused(place, STATE);
                    else edge.taken(place, 0);
                }
            }
        }
        SoundLaws beside = Due.read("w...k/ptks/k.../ptks");
        due.be("14 alone, though the words beside it are not", beside.put(0, 0, 3, 0), STATE);
        due.be("14 alone, though those on both sides are not", beside.put(0, 2, 0, 0), STATE);
        Due.write(beside, "wp./pt");
        beside.sets();
        due.be("14 alone, though it was longer ahead", beside.put(0, 0, 0, 0), STATE);
        SoundLaws laws = Due.read("wpa/ka");
        due.be("14 one of two sounds goes", laws.put(0, 1, 0, 0), 6);
        due.be("14 the other one may not", laws.put(0, 1, 1, 0), STATE);
        due.be("14 of the other word it may", laws.put(0, 0, 1, 0), 1);
        due.be("14 another sound for the only one", laws.put(0, 1, 1, 8), 1);
    }

    private static void copy15() {
        edge("15 \"UNKNOWN\"", EdgesTest::rich, SoundLaws::copy).taken(0, 4).taken(3, 4).refusedBeside(0, 3, UNKNOWN);
        edge("15 \"FULL: there are six\"", EdgesTest::sixSets, SoundLaws::copy)
            .refused(0, FULL).refused(5, FULL).refused(6, UNKNOWN);
        SoundLaws laws = rich();
        due.be("15 the fifth", laws.copy(3), 4);
        due.be("15 the sixth, of five", laws.copy(4), 5);
        due.be("15 a seventh", laws.copy(5), FULL);
        for (int place = 0; place < 4; place++) {
            due.be("15 \"all its WORDS\"", laws.sound(5, 1, place), new int[] {8, 5, 6, 1}[place]);
        }
        due.be("15 \"its KIND\"", laws.set(5, 0), 4);
        laws.take(0);
        due.be("15 there are five again", laws.copy(0), 5);
        due.be("15 of the only one", oneSet().copy(0), 1);
    }

    private static void take16() {
        edge("16 \"UNKNOWN\"", EdgesTest::rich, SoundLaws::take).taken(0, 3).taken(3, 3).refusedBeside(0, 3, UNKNOWN);
        edge("16 \"STATE: it is the only one\"", EdgesTest::oneSet, SoundLaws::take)
            .refused(0, STATE).refused(1, UNKNOWN).refused(-1, UNKNOWN);
        SoundLaws laws = sixSets();
        for (int left = 5; left >= 1; left--) due.be("16 \"how many are left\"", laws.take(0), left);
        due.be("16 the last of six is the only one", laws.take(0), STATE);
        due.be("16 it is the one that came last", laws.set(0, 0) * 10 + laws.set(0, 1), 33);
        laws = rich();
        laws.take(3);
        due.be("16 none was behind the last", laws.set(2, 1), 1);
        due.be("16 the last is gone", laws.set(3, 1), UNKNOWN);
        laws.take(0);
        due.be("16 \"those behind it have numbers 1 less\"", laws.set(0, 1) * 10 + laws.set(1, 1), 31);
        due.be("16 all that was SEEN is SEEN", laws.count(7), 2);
        due.be("16 what was SEEN of one behind is SEEN of it still", laws.set(1, 5), 4 + 8);
        due.be("16 what was SEEN of the one that is gone is not of the next", laws.set(0, 5), 31);
        laws = Due.read("wp/p,wp/p,wp/p");
        laws.see(1, 2, true);
        laws.take(2);
        due.be("16 what was SEEN of one ahead stays its own", laws.set(1, 5), 16);
        laws.take(0);
        due.be("16 the first that was SEEN, of one behind", laws.set(0, 5), 16);
    }

    private static void change17() {
        edge("17 \"UNKNOWN\"", EdgesTest::rich, (x, set) -> x.change(set, 2))
            .taken(0, 0).taken(3, 4).refusedBeside(0, 3, UNKNOWN);
        edge("17 \"OUTSIDE: kind (0 to 4)\"", EdgesTest::rich, (x, kind) -> x.change(1, kind))
            .taken(0, 3).taken(3, 3).taken(4, 3).refusedBeside(0, 4, OUTSIDE);
        for (int kind = 0; kind <= 4; kind++) {
            SoundLaws laws = rich();
            laws.change(1, kind);
            due.be("17 it is of kind " + kind, laws.set(1, 0), kind);
        }
    }

    private static void swap18() {
        edge("18 \"UNKNOWN: one\"", EdgesTest::rich, (x, one) -> x.swap(one, 1))
            .taken(0, 3).taken(2, 3).refusedBeside(0, 2, UNKNOWN);
        edge("18 \"UNKNOWN: other\"", EdgesTest::rich, (x, other) -> x.swap(1, other))
            .taken(0, 3).taken(2, 3).refusedBeside(0, 2, UNKNOWN);
        edge("18 \"or they are the same\"", EdgesTest::rich, (x, both) -> x.swap(both, both))
            .refused(0, UNKNOWN).refused(1, UNKNOWN).refused(2, UNKNOWN).refused(3, UNKNOWN);
        edge("18 of two tongues", () -> Due.read("wp/a,nf/f"), (x, other) -> x.swap(0, other))
            .taken(1, 2).refused(2, UNKNOWN);
        edge("18 of six sets", EdgesTest::sixSets, (x, other) -> x.swap(0, other))
            .taken(1, 4).taken(2, 4).refused(3, UNKNOWN);
        SoundLaws laws = sixSets();
        laws.swap(0, 1);
        due.be("18 \"in all SETS\", the first", laws.sound(0, 0, 0) * 10 + laws.sound(0, 1, 0), 64);
        due.be("18 \"in all SETS\", the sixth", laws.sound(5, 0, 0) * 10 + laws.sound(5, 1, 0), 76);
        due.be("18 \"in all SETS\", the last place", laws.sound(3, 0, 3) * 10 + laws.sound(3, 1, 3), 11);
        edge("18 of four tongues", () -> Due.read("wa/p/p/a"), (x, other) -> x.swap(0, other))
            .taken(2, 2).taken(3, 4).refused(4, UNKNOWN);
    }

    private static void see19() {
        edge("19 \"UNKNOWN: set\"", EdgesTest::rich, (x, set) -> x.see(set, 0, true))
            .taken(0, 3).taken(3, 3).refusedBeside(0, 3, UNKNOWN);
        edge("19 \"OUTSIDE: what (0 to 3)\"", EdgesTest::rich, (x, what) -> x.see(0, what, false))
            .taken(0, 3).taken(3, 3).refusedBeside(0, 3, OUTSIDE);
        edge("19 \"FULL\"", EdgesTest::sixSeen, (x, set) -> x.see(set, 0, true))
            .refused(0, FULL).refused(3, FULL).refused(4, UNKNOWN);
        edge("19 \"FULL\", could not", EdgesTest::sixSeen, (x, what) -> x.see(0, what, false))
            .refused(0, FULL).refused(3, FULL).refused(4, OUTSIDE);
        SoundLaws laws = rich();
        for (int much = 3; much <= 6; much++) due.be("19 \"how much is\"", laws.see(1, 1, true), much);
        due.be("19 a seventh", laws.see(1, 1, true), FULL);
        laws.forget();
        for (int much = 1; much <= 6; much++) due.be("19 \"how much is\", of one set", laws.see(0, 2, false), much);
        due.be("19 a seventh, of another set", laws.see(3, 2, false), FULL);
    }

    private static void forget20() {
        due.be("20 no sets", new SoundLaws().forget(), 0);
        SoundLaws laws = sixSeen();
        due.be("20 \"how much was\", six", laws.forget(), 6);
        due.be("20 \"how much was\", none", laws.forget(), 0);
        for (int set = 0; set < 4; set++) due.be("20 \"Nothing is SEEN any more\"", laws.set(set, 5), 31);
        due.be("20 one again", laws.see(3, 2, true), 1);
        due.be("20 only that one bears on its sorts", laws.set(3, 5), 16);
        due.be("20 the image keeps what was seen", laws.restore() * 10 + laws.count(7), 41);
    }

    private static void drawn21() {
        edge("21 \"times (1 to 40)\"", EdgesTest::rich, (x, times) -> x.drawn(times, 5, 2))
            .taken(1, seedBehind(5, 4)).taken(40, seedBehind(5, 160)).refusedBeside(1, 40, OUTSIDE);
        edge("21 \"seed (0 at least)\"", EdgesTest::rich, (x, seed) -> x.drawn(1, seed, 2))
            .taken(0, 1449466924).taken(HIGH, seedBehind(HIGH, 4)).refused(-1, OUTSIDE).refused(LOW, OUTSIDE);
        edge("21 \"what\"", SoundLaws::new, (x, what) -> x.drawn(1, 0, what))
            .taken(0, 6).taken(1, 0).taken(2, 1449466924).refusedBeside(0, 2, OUTSIDE);
        edge("21 no call of it changes anything", EdgesTest::rich, (x, what) -> x.drawn(40, 1111, what))
            .changesNothing(0, 156).changesNothing(1, 0);
    }

    private static int seedBehind(int from, int draws) {
        BigInteger seed = BigInteger.valueOf(from);
        for (int draw = 0; draw < draws; draw++) {
            seed = seed.multiply(BigInteger.valueOf(1103515245)).add(BigInteger.valueOf(12345)).mod(BigInteger.ONE.shiftLeft(31));
        }
        return seed.intValueExact();
    }

    private static void image22() {
        edge("22 \"STATE: no SETS\"", SoundLaws::new, (x, unused) -> x.image()).refused(0, STATE);
        due.be("22 \"how many SETS\", one", oneSet().image(), 1);
        due.be("22 \"how many SETS\", six", sixSets().image(), 6);
        SoundLaws laws = rich();
        laws.take(0);
        due.be("22 \"one; the latest\"", laws.image(), 3);
        laws.copy(0);
        due.be("22 \"one; the latest\", that one", laws.restore(), 3);
        due.be("22 it is kept still", laws.restore(), 3);
        laws.put(0, 0, 0, 8);
        due.be("22 it is not what is changed behind it", laws.restore() * 10 + laws.sound(0, 0, 0), 36);
    }

    private static void restore23() {
        edge("23 \"STATE: none was kept\", no sets", SoundLaws::new, (x, unused) -> x.restore()).refused(0, STATE);
        edge("23 \"STATE: none was kept\"", () -> Due.read("wp/a"), (x, unused) -> x.restore()).refused(0, STATE);
        Supplier<SoundLaws> others = () -> {
            SoundLaws laws = rich();
            laws.sets();
            laws.see(0, 2, true);
            return laws;
        };
        edge("23 \"there are other SETS since (by sets())\"", others, (x, unused) -> x.restore()).refused(0, STATE);
        Supplier<SoundLaws> same = () -> {
            SoundLaws laws = Due.read("wp/a");
            laws.image();
            Due.write(laws, "wp/a");
            laws.sets();
            return laws;
        };
        edge("23 other sets, though they are like those", same, (x, unused) -> x.restore()).refused(0, STATE);
        SoundLaws laws = rich();
        laws.letter('x');
        due.be("23 sets() that was refused", laws.sets(), STATE);
        due.be("23 there are no other sets", laws.restore(), 4);
        due.be("23 the word is as it was", laws.sound(0, 1, 0), 8);
        due.be("23 one is seen, as it was", laws.count(7), 1);
        due.be("23 the page is not of the image", laws.count(8), 5);
        due.be("23 the readings are not of the image", laws.count(9), 1);
        for (int set = 0; set < 3; set++) laws.take(0);
        laws.forget();
        due.be("23 from one set to four", laws.restore(), 4);
        laws.copy(0);
        laws.copy(0);
        due.be("23 from six sets to four", laws.restore() * 10 + laws.count(0), 44);
    }

    private static void count24() {
        edge("24 \"OUTSIDE\"", EdgesTest::rich, SoundLaws::count).taken(0, 4).taken(9, 1).refusedBeside(0, 9, OUTSIDE);
        int[] due24 = {4, 3, 5, 3, 12, 1, 0, 2, 4, 1};
        for (int what = 0; what <= 9; what++) due.be("24 count(" + what + ")", rich().count(what), due24[what]);
        due.be("24 \"(0: no SETS)\", tongues", new SoundLaws().count(1), 0);
        due.be("24 \"(0: no SETS)\", nodes", new SoundLaws().count(2), 0);
        due.be("24 nodes of two", Due.read("wa/a").count(2), 3);
        due.be("24 nodes of three", Due.read("wa/a/a").count(2), 5);
        due.be("24 nodes of four", Due.read("wa/a/a/a").count(2), 7);
        due.be("24 sets, six", sixSets().count(0), 6);
        due.be("24 letters, all", fullPage().count(8), 110);
        due.be("24 seen, all", sixSeen().count(7), 6);
        due.be("24 changes, where nothing is rebuilt", Due.read("lp/a,cp/a").count(3), 0);
        due.be("24 laws, where none has weight", Due.read("np/a,cp/a").count(4), 0);
        due.be("24 words that are borrowed, of all sets", Due.read("wp/t/k/s,wt/p/k/s,wt/t/p/k,np/p/p/p").count(6), 1 + 1 + 2 + 4);
    }

    /* 31 times h, and the number, with numbers as great as they come; only the last rest is taken. */
    private static BigInteger told(SoundLaws laws, String page) {
        BigInteger hash = BigInteger.valueOf(1459);
        for (int set = 0; set < laws.count(0); set++) {
            for (int what = 0; what <= 6; what++) hash = with(hash, laws.set(set, what));
            for (int at = 0; at < laws.set(set, 1) * laws.count(2); at++) {
                hash = with(hash, laws.sound(set, at % laws.count(2), at / laws.count(2)));
            }
        }
        for (int at = 0; at < laws.count(1) * 54; at++) hash = with(hash, laws.law(at / 54, at / 6 % 9, at / 3 % 2, at % 3));
        for (int at = 0; at < page.length(); at++) hash = with(hash, page.charAt(at));
        for (int what = 0; what <= 9; what++) hash = with(hash, laws.count(what));
        return hash;
    }

    private static BigInteger with(BigInteger hash, int number) {
        return hash.multiply(BigInteger.valueOf(31)).add(BigInteger.valueOf(number));
    }

    private static void digest25(String what, SoundLaws laws, String page) {
        long before = laws.digest();
        due.be("25 \"(as longs, wrapping)\", " + what, before, told(laws, page).longValue());
        due.be("25 it changes nothing, " + what, laws.digest(), before);
    }

    private static void digest25() {
        SoundLaws laws = new SoundLaws();
        due.hold("25 of a new object it wraps already", told(laws, "").bitLength() > 59);
        digest25("a new object", laws, "");
        laws.letter(126);
        laws.letter(1);
        digest25("two letters", laws, "~\u0001");
        digest25("three tongues", rich(), "wa/e");
        digest25("one set", oneSet(), "wa/e");
        digest25("six sets", sixSets(), "wa/e");
        digest25("six seen", sixSeen(), "wa/e");
        digest25("two tongues", Due.read("wp/a"), "");
        digest25("four tongues", Due.read("wptks/ptks/ptks/aeof,lp/t/k/a"), "");
        digest25("a full page", fullPage(), "wa/e" + "a".repeat(106));
    }

    /* "of several the first as told by each call" */
    private static void severalRefusals() {
        edge("2 OUTSIDE ahead of FULL", EdgesTest::fullPage, SoundLaws::letter).refusedBeside(1, 126, OUTSIDE);
        edge("6 UNKNOWN ahead of OUTSIDE", EdgesTest::rich, (x, set) -> x.set(set, 7))
            .refusedBeside(0, 3, UNKNOWN).refused(3, OUTSIDE);
        edge("7 UNKNOWN ahead of OUTSIDE", EdgesTest::rich, (x, set) -> x.as(set, 5))
            .refusedBeside(0, 3, UNKNOWN).refused(3, OUTSIDE);
        edge("9 UNKNOWN (tongue) ahead of OUTSIDE", EdgesTest::rich, (x, tongue) -> x.law(tongue, 0, 2, -1))
            .refusedBeside(0, 2, UNKNOWN).refused(2, OUTSIDE);
        edge("9 UNKNOWN (sound) ahead of OUTSIDE", EdgesTest::rich, (x, sound) -> x.law(0, sound, -1, 3))
            .refusedBeside(0, 8, UNKNOWN).refused(8, OUTSIDE);
        edge("10 UNKNOWN ahead of STATE", EdgesTest::rich, (x, tongue) -> x.strange(1, tongue))
            .refusedBeside(0, 2, UNKNOWN).refused(2, STATE);
        edge("11 UNKNOWN (tongue) ahead of STATE", EdgesTest::rich, (x, tongue) -> x.say(1, tongue, 0))
            .refusedBeside(0, 2, UNKNOWN).refused(2, STATE);
        edge("11 UNKNOWN (place) ahead of STATE", EdgesTest::rich, (x, place) -> x.say(1, 0, place))
            .refusedBeside(0, 2, UNKNOWN).refused(2, STATE);
        edge("14 UNKNOWN (set) ahead of OUTSIDE", EdgesTest::rich, (x, set) -> x.put(set, 0, 0, 9))
            .refusedBeside(0, 3, UNKNOWN).refused(3, OUTSIDE);
        edge("14 UNKNOWN (place) ahead of OUTSIDE", EdgesTest::rich, (x, place) -> x.put(2, 0, place, -1))
            .refusedBeside(0, 0, UNKNOWN).refused(0, OUTSIDE);
        edge("14 UNKNOWN (place) ahead of STATE", EdgesTest::rich, (x, place) -> x.put(2, 0, place, 0))
            .refusedBeside(0, 0, UNKNOWN).refused(0, STATE);
        edge("14 UNKNOWN (tongue) ahead of STATE", EdgesTest::rich, (x, tongue) -> x.put(2, tongue, 0, 0))
            .refusedBeside(0, 2, UNKNOWN).refused(2, STATE);
        edge("15 UNKNOWN ahead of FULL", EdgesTest::sixSets, SoundLaws::copy).refusedBeside(0, 5, UNKNOWN);
        edge("16 UNKNOWN ahead of STATE", EdgesTest::oneSet, SoundLaws::take).refusedBeside(0, 0, UNKNOWN);
        edge("17 UNKNOWN ahead of OUTSIDE", EdgesTest::rich, (x, set) -> x.change(set, 5))
            .refusedBeside(0, 3, UNKNOWN).refused(3, OUTSIDE);
        edge("19 UNKNOWN ahead of OUTSIDE and FULL", EdgesTest::sixSeen, (x, set) -> x.see(set, 4, true))
            .refusedBeside(0, 3, UNKNOWN).refused(3, OUTSIDE);
        edge("19 OUTSIDE ahead of FULL", EdgesTest::sixSeen, (x, what) -> x.see(0, what, true))
            .refusedBeside(0, 3, OUTSIDE).refused(3, FULL);
    }

    /* "An object is used for at most 512 calls": the last of them is answered like the first. */
    private static void calls512() {
        SoundLaws reads = new SoundLaws();
        for (int reading = 1; reading <= 102; reading++) {
            for (char sign : "wp/a".toCharArray()) reads.letter(sign);
            due.be("512 calls, reading " + reading, reads.sets(), 1);
        }
        due.be("512 calls, the 511th: count(9)", reads.count(9), 102);
        due.be("512 calls, the 512th: image", reads.image(), 1);
        SoundLaws blanks = new SoundLaws();
        for (int call = 1; call <= 511; call++) due.be("512 calls, blank " + call, blanks.blank(), 0);
        due.be("512 calls, the 512th: letter", blanks.letter(126), 1);
        SoundLaws copies = new SoundLaws();
        for (char sign : "wp/a".toCharArray()) copies.letter(sign);
        copies.sets();
        for (int call = 6; call < 512; call += 2) {
            due.be("512 calls, copy", copies.copy(0), 1);
            due.be("512 calls, take", copies.take(1), 1);
        }
        due.be("512 calls, the 512th: digest", copies.digest(), Due.read("wp/a").digest());
    }

    /* What they answer is free; but no call may ever throw or fail to end. */
    private static void laterCalls() {
        SoundLaws laws = rich();
        int[] numbers = {LOW, -1, 0, 1, 2, 3, 4, 5, 6, 7, 8, 9, 40, 41, 110, 126, 127, HIGH};
        for (int call = 0; call < 20000; call++) {
            int a = numbers[call % 18];
            int b = numbers[call / 18 % 18];
            int c = numbers[call / 7 % 18];
            if (call % 50 == 0) Due.write(laws, "wp/a/k,n.p/t./kf");
            laws.letter("wncld.aeoptksf/,".charAt(call % 16));
            laws.put(a, b, c, a);
            laws.set(a, b);
            laws.sound(a, b, c);
            laws.law(a, b, c, a);
            laws.say(a, b, c);
            laws.line(a, b, c, a);
            laws.see(a, b, call % 2 == 0);
            laws.copy(b);
            laws.take(c);
            laws.change(a, c);
            laws.swap(b, c);
            laws.drawn(a, b, c);
            laws.sets();
            if (call % 9 == 0) laws.blank();
            if (call % 5 == 0) laws.image();
            if (call % 11 == 0) laws.restore();
            if (call % 13 == 0) laws.forget();
            laws.digest();
        }
        due.hold("later calls have ended", true);
    }
}
