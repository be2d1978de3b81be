/** The promises of the document, one method each, with answers that were worked out by hand. */
public final class PromisesTest {
    private static final int NONE = -1, UNKNOWN = -101, OUTSIDE = -102, STATE = -103, FULL = -104;
    private static final int LOW = Integer.MIN_VALUE, HIGH = Integer.MAX_VALUE;
    private static final Due due = new Due();

    public static void main(String[] args) {
        newObject();
        letter();
        blank();
        fault();
        faultAtTheLimits();
        sets();
        setsRefused();
        set();
        setBorrowed();
        setSortsAndAsk();
        as();
        sound();
        soundOfThreeAndTwo();
        law();
        lawLeavesOut();
        strange();
        say();
        line();
        cost();
        put();
        answersFollowTheSets();
        copy();
        take();
        takeAndSeen();
        seeAfterTake();
        change();
        swap();
        see();
        forget();
        drawn();
        image();
        restore();
        count();
        digest();
        refusedCallsChangeNothing();
        due.end();
    }

    private static void newObject() {
        SoundLaws x = new SoundLaws();
        for (int what = 0; what <= 9; what++) due.be("1 count(" + what + ")", x.count(what), 0);
        due.be("1 set", x.set(0, 0), UNKNOWN);
        due.be("1 as", x.as(0, 0), UNKNOWN);
        due.be("1 sound", x.sound(0, 0, 0), UNKNOWN);
        due.be("1 law", x.law(0, 0, 0, 0), UNKNOWN);
        due.be("1 strange", x.strange(0, 0), UNKNOWN);
        due.be("1 say", x.say(0, 0, 0), UNKNOWN);
        due.be("1 line", x.line(0, 0, 0, 0), UNKNOWN);
        due.be("1 put", x.put(0, 0, 0, 1), UNKNOWN);
        due.be("1 copy", x.copy(0), UNKNOWN);
        due.be("1 take", x.take(0), UNKNOWN);
        due.be("1 change", x.change(0, 0), UNKNOWN);
        due.be("1 swap", x.swap(0, 1), UNKNOWN);
        due.be("1 see", x.see(0, 0, true), UNKNOWN);
        due.be("1 image", x.image(), STATE);
        due.be("1 restore", x.restore(), STATE);
        due.be("1 sets", x.sets(), STATE);
        due.be("1 NONE", SoundLaws.NONE, NONE);
        due.be("1 UNKNOWN", SoundLaws.UNKNOWN, UNKNOWN);
        due.be("1 OUTSIDE", SoundLaws.OUTSIDE, OUTSIDE);
        due.be("1 STATE", SoundLaws.STATE, STATE);
        due.be("1 FULL", SoundLaws.FULL, FULL);
    }

    private static void letter() {
        SoundLaws x = new SoundLaws();
        due.be("2 least code", x.letter(1), 1);
        due.be("2 greatest code", x.letter(126), 2);
        due.be("2 code 0", x.letter(0), OUTSIDE);
        due.be("2 code 127", x.letter(127), OUTSIDE);
        due.be("2 low code", x.letter(LOW), OUTSIDE);
        due.be("2 high code", x.letter(HIGH), OUTSIDE);
        for (int many = 3; many <= 110; many++) due.be("2 letter " + many, x.letter('a'), many);
        due.be("2 above 110", x.letter('a'), FULL);
        due.be("2 outside ahead of full", x.letter(0), OUTSIDE);
        due.be("2 letters", x.count(8), 110);
    }

    private static void blank() {
        SoundLaws x = new SoundLaws();
        due.be("3 empty page", x.blank(), 0);
        Due.write(x, "wa/");
        due.be("3 three letters", x.blank(), 3);
        due.be("3 empty then", x.count(8), 0);
        due.be("3 again", x.blank(), 0);
        due.be("3 starts anew", Due.write(x, "w"), 1);
        due.be("3 what was is gone", x.fault(), 1);
    }

    private static void fault(String text, int place) {
        SoundLaws x = new SoundLaws();
        Due.write(x, text);
        due.be("4 fault of " + text, x.fault(), place);
        due.be("4 the page stays", x.count(8), text.length());
    }

    private static void fault() {
        fault("", 0);
        fault("x", 0);
        fault("a", 0);
        fault(",", 0);
        fault("w", 1);
        fault("w/", 1);
        fault("w,", 1);
        fault("ww", 1);
        fault("wx", 1);
        fault("wa", 2);
        fault("wa,", 2);
        fault("wa/", 3);
        fault("wa//", 3);
        fault("wa/,", 3);
        fault("wa/p", 4);
        fault("wa/pp", 4);
        fault("wap/p", 5);
        fault("wap/p/", 5);
        fault("wap/p,", 5);
        fault("wa/e,", 5);
        fault("wa/e,,", 5);
        fault("wa/e,z", 5);
        fault("wa/e,wap/ap", 11);
        fault("wa/E", 3);
        fault("w./.,n.", 7);
        fault("wa/e a", 4);
    }

    private static void faultAtTheLimits() {
        fault("waeop/ptks", 10);
        fault("waeopt/ptks", 5);
        fault("wa/a/a/a", 8);
        fault("wa/a/a/a/", 8);
        fault("wa/a/a/a,wa/a/a,", 15);
        fault("wa/a,wa/a/", 9);
        fault("wa/a/a,wa/a,", 11);
        fault("wa/a,na/a,ca/a,la/a,da/a", 24);
        fault("wa/a,na/a,ca/a,la/a,da/a,", 24);
        String longest = "wptks/ptks/ptks/ptks";
        String text = longest + "," + longest + "," + longest + "," + longest + "," + longest;
        fault(text, 104);
        fault(text + "/", 104);
    }

    private static void sets() {
        SoundLaws x = new SoundLaws();
        Due.write(x, "w.aeo/ptks,nf.../k...");
        due.be("5 two sets", x.sets(), 2);
        due.be("5 page is empty", x.count(8), 0);
        due.be("5 read once", x.count(9), 1);
        int[] ofOne = {0, 1, 2, 3, 4, 5, 6, 7};
        for (int at = 0; at < 8; at++) due.be("5 sound " + at, x.sound(0, at / 4, at % 4), ofOne[at]);
        due.be("5 f", x.sound(1, 0, 0), 8);
        due.be("5 kinds", x.set(0, 0) * 10 + x.set(1, 0), 1);
        x.see(1, 0, true);
        x.image();
        Due.write(x, "wa/a,na/a,ca/a,la/a,da/a");
        due.be("5 five sets", x.sets(), 5);
        for (int set = 0; set < 5; set++) due.be("5 kind " + set, x.set(set, 0), set);
        due.be("5 what was seen is gone", x.count(7), 0);
        due.be("5 the image is gone", x.restore(), STATE);
        due.be("5 read twice", x.count(9), 2);
        Due.write(x, "da/a/a/a");
        due.be("5 one set", x.sets(), 1);
        due.be("5 four tongues", x.count(1), 4);
        due.be("5 others are gone", x.set(1, 0), UNKNOWN);
        Due.write(x, "w./.");
        due.be("5 silent words", x.sets(), STATE);
        x.blank();
        Due.write(x, "wa/e");
        due.be("5 others behind them", x.sets(), 1);
    }

    private static void setsRefused() {
        String[] none = {"", "w", "wa", "wa/", "wa/e,", "wa/e,w", "wa/e,wa", "wap/a", "wap/ap/a", "wa/e,wa/e/o",
            "wa/e/o,wa/e", "wa/ex", "w./a", "wa/.", "wap/..", "w../ap", "wa/a,w./a", "wa/a,wa/.", "wa/a/a/a/a",
            "waaaaa/aaaaa", "wa/a,wa/a,wa/a,wa/a,wa/a,wa/a"};
        for (String text : none) {
            SoundLaws x = Due.read("npa/ta");
            x.see(0, 0, true);
            x.image();
            Due.write(x, text);
            long before = x.digest();
            due.be("5 no sets: " + text, x.sets(), STATE);
            due.be("5 nothing changed: " + text, x.digest(), before);
            due.be("5 the image stays: " + text, x.restore(), 1);
        }
    }

    /* p stays p in the first tongue; in the second two of weight 1 became f, one of weight 2 stayed p. */
    private static final String PA_FA = "wpa/fa,wpo/fo,dpe/pe,lpa/ke,nta/te";

    private static void set() {
        SoundLaws x = Due.read(PA_FA);
        int[] kinds = {0, 0, 4, 3, 1};
        int[] changes = {1, 1, 0, NONE, 1};
        int[] strange = {1, 1, 0, 0, 1};
        for (int set = 0; set < 5; set++) {
            due.be("6 kind of " + set, x.set(set, 0), kinds[set]);
            due.be("6 length of " + set, x.set(set, 1), 2);
            due.be("6 changes of " + set, x.set(set, 2), changes[set]);
            due.be("6 strange of " + set, x.set(set, 3), strange[set]);
            due.be("6 borrowed of " + set, x.set(set, 4), 0);
            due.be("6 sorts of " + set, x.set(set, 5), 31);
            due.be("6 ask of " + set, x.set(set, 6), 0);
        }
        due.be("6 set 5", x.set(5, 0), UNKNOWN);
        due.be("6 set -1", x.set(-1, 0), UNKNOWN);
        due.be("6 low set", x.set(LOW, 0), UNKNOWN);
        due.be("6 high set", x.set(HIGH, 0), UNKNOWN);
        due.be("6 what 7", x.set(0, 7), OUTSIDE);
        due.be("6 what -1", x.set(0, -1), OUTSIDE);
        due.be("6 unknown ahead of outside", x.set(5, 7), UNKNOWN);
        SoundLaws all = Due.read("wpate/.e.p");
        due.be("6 changes of all places", all.set(0, 2), 3 + 1 + 3 + 2);
        due.be("6 greatest length", all.set(0, 1), 4);
    }

    private static void setBorrowed() {
        SoundLaws whole = Due.read("wp/p,wp/p,wp/f");
        due.be("6 all places, of one", whole.set(2, 3), 1);
        due.be("6 borrowed by all of one", whole.set(2, 4), 2);
        due.be("6 the others are not", whole.set(0, 4), 0);
        due.be("6 borrowed words of one", whole.count(6), 1);
        SoundLaws two = Due.read("wpat/pat,wpat/pat,wpat/fet");
        due.be("6 two of three", two.set(2, 3), 2);
        due.be("6 borrowed by two", two.set(2, 4), 2);
        SoundLaws one = Due.read("wpat/pat,wpat/pat,wpat/fat");
        due.be("6 one of three", one.set(2, 3), 1);
        due.be("6 not borrowed by one", one.set(2, 4), 0);
        SoundLaws both = Due.read("dpa/pa/pa/pa,npo/so/ko/to,ns/f/s/s");
        due.be("6 a name can be strange", both.set(1, 3), 3);
        due.be("6 one of two places is not all", both.set(1, 4), 0);
        SoundLaws bits = Due.read("dta/ta/ta/ta,dta/ta/ta/ta,wpo/ta/se/ta");
        due.be("6 root of the third is t", bits.sound(2, 6, 0), 5);
        due.be("6 root of the third is a", bits.sound(2, 6, 1), 1);
        due.be("6 strange in all words", bits.set(2, 3), 4);
        due.be("6 borrowed as bits", bits.set(2, 4), 1 + 4);
        due.be("6 borrowed words", bits.count(6), 2);
    }

    private static void ask(String seen, boolean[] could, int[] what, int sorts, int ask) {
        SoundLaws x = Due.read("wa/a,wa/a");
        for (int at = 0; at < what.length; at++) x.see(1, what[at], could[at]);
        due.be("6 sorts, " + seen, x.set(1, 5), sorts);
        due.be("6 ask, " + seen, x.set(1, 6), ask);
        due.be("6 sorts of another, " + seen, x.set(0, 5), 31);
        due.be("6 ask of another, " + seen, x.set(0, 6), 0);
    }

    private static void setSortsAndAsk() {
        boolean[] yes = {true};
        boolean[] no = {false};
        ask("makes laws", yes, new int[] {0}, 1 + 16, 2);
        ask("makes none", no, new int[] {0}, 2 + 4 + 8, 1);
        ask("is rebuilt", yes, new int[] {1}, 1 + 2 + 16, 0);
        ask("is not", no, new int[] {1}, 4 + 8, 0);
        ask("counts twice", yes, new int[] {2}, 16, 0);
        ask("does not", no, new int[] {2}, 1 + 2 + 4 + 8, 1);
        ask("is left out", yes, new int[] {3}, 2, 0);
        ask("is not left out", no, new int[] {3}, 1 + 4 + 8 + 16, 0);
        ask("laws, but not rebuilt", new boolean[] {true, false}, new int[] {0, 1}, 0, NONE);
        ask("both ways", new boolean[] {true, false}, new int[] {3, 3}, 0, NONE);
        ask("laws, not twice", new boolean[] {true, false}, new int[] {0, 2}, 1, 0);
    }

    private static void as() {
        SoundLaws x = Due.read("wa/a,na/a,ca/a,la/a,da/a");
        boolean[][] is = {
            {true, false, false, false, false},
            {true, true, false, false, false},
            {true, true, true, false, false},
            {true, false, false, true, false},
            {true, false, false, false, true}};
        for (int set = 0; set < 5; set++) {
            for (int kind = 0; kind < 5; kind++) {
                due.be("7 as(" + set + ", " + kind + ")", x.as(set, kind), is[set][kind] ? set : NONE);
            }
        }
        due.be("7 set 5", x.as(5, 0), UNKNOWN);
        due.be("7 set -1", x.as(-1, 0), UNKNOWN);
        due.be("7 kind 5", x.as(0, 5), OUTSIDE);
        due.be("7 kind -1", x.as(0, -1), OUTSIDE);
        due.be("7 unknown ahead of outside", x.as(HIGH, LOW), UNKNOWN);
    }

    private static void nodes(String text, int place, int... sounds) {
        SoundLaws x = Due.read(text);
        for (int node = 0; node < sounds.length; node++) {
            due.be("8 " + text + " node " + node + " place " + place, x.sound(0, node, place), sounds[node]);
        }
        due.be("8 " + text + " has no more nodes", x.sound(0, sounds.length, place), UNKNOWN);
    }

    private static void sound() {
        nodes("wa/p/p/p", 0, 1, 4, 4, 4, 4, 4, 4);
        nodes("wa/a/p/p", 0, 1, 1, 4, 4, 1, 4, 1);
        nodes("wp/p/a/a", 0, 4, 4, 1, 1, 4, 1, 1);
        nodes("wpa/pe/ao/ap", 1, 1, 2, 3, 4, 1, 1, 1);
        nodes("w.a/.a/pa/pa", 0, 0, 0, 4, 4, 0, 4, 0);
        nodes("w.a/pa/aa/aa", 0, 0, 4, 1, 1, 1, 1, 1);
        SoundLaws x = Due.read("cpa/ka,lpa/ka,npa/ka,wpat/kat");
        due.be("8 a cry has its words", x.sound(0, 1, 0), 6);
        due.be("8 of a cry nothing is rebuilt", x.sound(0, 2, 0), NONE);
        due.be("8 nor of a loan", x.sound(1, 2, 1), NONE);
        due.be("8 of a name it is", x.sound(2, 2, 0), 4);
        due.be("8 node 3", x.sound(0, 3, 0), UNKNOWN);
        due.be("8 node -1", x.sound(0, -1, 0), UNKNOWN);
        due.be("8 place 2", x.sound(0, 2, 2), UNKNOWN);
        due.be("8 place 2 of a longer one", x.sound(3, 2, 2), 5);
        due.be("8 place 3 of it", x.sound(3, 2, 3), UNKNOWN);
        due.be("8 place -1", x.sound(0, 0, -1), UNKNOWN);
        due.be("8 set 4", x.sound(4, 0, 0), UNKNOWN);
        due.be("8 low, high, low", x.sound(LOW, HIGH, LOW), UNKNOWN);
    }

    private static void soundOfThreeAndTwo() {
        nodes("we/o/a", 0, 2, 3, 1, 1, 1);
        nodes("wa/p/a", 0, 1, 4, 1, 1, 1);
        nodes("wa/p/p", 0, 1, 4, 4, 4, 4);
        nodes("wa/a/p", 0, 1, 1, 4, 1, 1);
        nodes("wp/p/a", 0, 4, 4, 1, 4, 1);
        nodes("w.a/pa/pa", 0, 0, 4, 4, 4, 4);
        nodes("wp/a", 0, 4, 1, 1);
        nodes("wf/t", 0, 8, 5, 5);
        nodes("wpa/.a", 0, 4, 0, 0);
        due.be("8 changes of e, o, a", Due.read("we/o/a").set(0, 2), 2);
    }

    private static void law(SoundLaws x, int tongue, int sound, int ahead, int... answers) {
        for (int what = 0; what < 3; what++) {
            String call = "9 law(" + tongue + ", " + sound + ", " + ahead + ", " + what + ")";
            due.be(call, x.law(tongue, sound, ahead, what), answers[what]);
        }
    }

    private static void law() {
        SoundLaws x = Due.read(PA_FA);
        law(x, 0, 4, 1, 4, 4, 0);
        law(x, 1, 4, 1, 4, 2, 2);
        law(x, 1, 4, 0, NONE, 0, 0);
        law(x, 1, 2, 0, 2, 2, 0);
        law(x, 1, 1, 0, 1, 1, 0);
        law(x, 1, 1, 1, NONE, 0, 0);
        due.be("9 tongue 2", x.law(2, 0, 0, 0), UNKNOWN);
        due.be("9 tongue -1", x.law(-1, 0, 0, 0), UNKNOWN);
        due.be("9 sound 9", x.law(0, 9, 0, 0), UNKNOWN);
        due.be("9 sound -1", x.law(0, -1, 0, 0), UNKNOWN);
        due.be("9 ahead 2", x.law(0, 0, 2, 0), OUTSIDE);
        due.be("9 ahead -1", x.law(0, 0, -1, 0), OUTSIDE);
        due.be("9 what 3", x.law(0, 0, 0, 3), OUTSIDE);
        due.be("9 what -1", x.law(0, 0, 0, -1), OUTSIDE);
        due.be("9 unknown ahead of outside", x.law(0, 9, 2, 3), UNKNOWN);
        due.be("9 low", x.law(LOW, LOW, LOW, LOW), UNKNOWN);
    }

    private static void lawLeavesOut() {
        SoundLaws x = Due.read("wpa/fa,npa/ta,cpa/ta,lpa/ta,npa/ta");
        law(x, 1, 4, 1, 8, 1, 0);
        law(x, 0, 4, 1, 4, 1, 0);
        SoundLaws twice = Due.read("wpa/fa,dpa/ta,wpa/fa,wpa/fa");
        law(twice, 1, 4, 1, 8, 3, 2);
        SoundLaws silence = Due.read("wp.a/p.a,wp.o/peo,w.ta/.ta");
        law(silence, 1, 0, 0, 0, 1, 1);
        law(silence, 1, 0, 1, 0, 1, 0);
        law(silence, 0, 0, 0, 0, 2, 0);
        SoundLaws apart = Due.read("wppp/ptt");
        law(apart, 0, 4, 1, 4, 1, 0);
        law(apart, 1, 4, 0, 5, 2, 0);
    }

    private static void strange() {
        SoundLaws x = Due.read(PA_FA);
        due.be("10 as the law tells", x.strange(0, 0), 0);
        due.be("10 not as it tells", x.strange(0, 1), 1);
        due.be("10 the old one is not", x.strange(2, 1), 0);
        due.be("10 no law for t, one for a", x.strange(4, 1), 1);
        due.be("10 a loan", x.strange(3, 0), STATE);
        due.be("10 set 5", x.strange(5, 0), UNKNOWN);
        due.be("10 set -1", x.strange(-1, 0), UNKNOWN);
        due.be("10 tongue 2", x.strange(0, 2), UNKNOWN);
        due.be("10 tongue -1", x.strange(0, -1), UNKNOWN);
        due.be("10 unknown ahead of state", x.strange(3, 2), UNKNOWN);
        x.change(3, 2);
        due.be("10 a cry", x.strange(3, 1), STATE);
    }

    private static void say() {
        SoundLaws x = Due.read("wpa/fa/pa,wpo/fo/po,nko/so/ko,lpa/pa/pa,npe/pe/pe");
        due.be("11 by its law", x.say(0, 1, 0), 8);
        due.be("11 by its law, first tongue", x.say(0, 0, 0), 4);
        due.be("11 not ahead", x.say(0, 1, 1), 1);
        due.be("11 no law for k", x.say(2, 1, 0), 6);
        due.be("11 a law for o", x.say(2, 1, 1), 3);
        due.be("11 a name, by the laws of others", x.say(4, 1, 0), 8);
        due.be("11 no law for e", x.say(4, 1, 1), 2);
        due.be("11 a loan", x.say(3, 0, 0), STATE);
        due.be("11 place 2", x.say(0, 0, 2), UNKNOWN);
        due.be("11 place -1", x.say(0, 0, -1), UNKNOWN);
        due.be("11 tongue 3", x.say(0, 3, 0), UNKNOWN);
        due.be("11 set 5", x.say(5, 0, 0), UNKNOWN);
        due.be("11 unknown ahead of state", x.say(3, 0, 2), UNKNOWN);
        due.be("11 low", x.say(LOW, LOW, LOW), UNKNOWN);
        x.change(3, 2);
        due.be("11 a cry", x.say(3, 0, 0), STATE);
    }

    private static void line(String text, int want) {
        SoundLaws x = Due.read(text);
        int last = x.count(0) - 1;
        due.be("12 " + text, x.line(0, 0, last, 1), want);
        due.be("12 " + text + ", the other way", x.line(last, 1, 0, 0), want);
    }

    private static void line() {
        line("wpa/pa", 0);
        line("wpa/fa", 1);
        line("wpa/ap", 4);
        line("w.pa/pa.", 0);
        line("wp.a/.ta", 1);
        line("wpata/atap", 6);
        line("wpat/pat,wp/t", 6);
        line("wp/t,wptks/eoae", 9 + 2);
        line("lpata/pata,ct.../...a", 9);
        SoundLaws x = Due.read("wpa/ta,wkso/sof");
        due.be("12 one 2", x.line(2, 0, 0, 0), UNKNOWN);
        due.be("12 first 2", x.line(0, 2, 0, 0), UNKNOWN);
        due.be("12 other 2", x.line(0, 0, 2, 0), UNKNOWN);
        due.be("12 second 2", x.line(0, 0, 0, 2), UNKNOWN);
        due.be("12 all -1", x.line(-1, -1, -1, -1), UNKNOWN);
        due.be("12 first -1", x.line(0, -1, 0, 0), UNKNOWN);
        due.be("12 second -1", x.line(0, 0, 0, -1), UNKNOWN);
    }

    private static void cost() {
        SoundLaws x = new SoundLaws();
        String sorts = ".vvvccccc";
        for (int one = 0; one < 9; one++) {
            for (int other = 0; other < 9; other++) {
                int want = one == other ? 0
                    : one == 0 || other == 0 ? 3
                    : sorts.charAt(one) == sorts.charAt(other) ? 1 : 2;
                due.be("13 cost(" + one + ", " + other + ")", x.cost(one, other), want);
            }
        }
        int[] wrong = {-1, 9, LOW, HIGH};
        for (int sound : wrong) {
            due.be("13 cost(" + sound + ", 0)", x.cost(sound, 0), UNKNOWN);
            due.be("13 cost(0, " + sound + ")", x.cost(0, sound), UNKNOWN);
            due.be("13 cost of both", x.cost(sound, sound), UNKNOWN);
        }
    }

    private static void put() {
        SoundLaws x = Due.read("wpa/fa,lp/t");
        due.be("14 it was f", x.put(0, 1, 0, 4), 8);
        due.be("14 it is p", x.sound(0, 1, 0), 4);
        due.be("14 changes follow", x.set(0, 2), 0);
        due.be("14 laws follow", x.law(1, 4, 1, 0), 4);
        due.be("14 to none", x.put(0, 1, 0, 0), 4);
        due.be("14 alone", x.put(0, 1, 1, 0), STATE);
        due.be("14 it stays", x.sound(0, 1, 1), 1);
        due.be("14 none over none", x.put(0, 1, 0, 0), 0);
        due.be("14 alone, of length 1", x.put(1, 0, 0, 0), STATE);
        due.be("14 in a loan", x.put(1, 0, 0, 8), 4);
        due.be("14 the same again", x.put(1, 0, 0, 8), 8);
        due.be("14 behind the first place", x.put(0, 0, 1, 3), 1);
        due.be("14 it is o", x.sound(0, 0, 1), 3);
        due.be("14 the first stays", x.sound(0, 0, 0), 4);
        due.be("14 none behind a sound", x.put(0, 0, 1, 0), 3);
        due.be("14 sound 9", x.put(0, 0, 0, 9), OUTSIDE);
        due.be("14 sound -1", x.put(0, 0, 0, -1), OUTSIDE);
        due.be("14 place 2", x.put(0, 0, 2, 1), UNKNOWN);
        due.be("14 place -1", x.put(0, 0, -1, 1), UNKNOWN);
        due.be("14 tongue 2", x.put(0, 2, 0, 1), UNKNOWN);
        due.be("14 set 2", x.put(2, 0, 0, 1), UNKNOWN);
        due.be("14 unknown ahead of outside", x.put(0, 0, 2, 9), UNKNOWN);
        due.be("14 high", x.put(HIGH, HIGH, HIGH, HIGH), UNKNOWN);
        SoundLaws four = Due.read("wp.../pata");
        due.be("14 alone, of length 4", four.put(0, 0, 0, 0), STATE);
        due.be("14 of the other word", four.put(0, 1, 3, 0), 1);
    }

    /* What was answered once must not be answered again when the sets are others. */
    private static void answersFollowTheSets() {
        SoundLaws x = Due.read("wp/f,wp/p,wp/p");
        due.be("borrowed at first", x.count(6), 1);
        due.be("exceptions at first", x.count(5), 1);
        due.be("changes at first", x.count(3), 1);
        x.put(0, 1, 0, 4);
        due.be("borrowed then", x.count(6), 0);
        due.be("exceptions then", x.count(5), 0);
        due.be("changes then", x.count(3), 0);
        due.be("strange then", x.set(0, 3), 0);
        x.put(0, 1, 0, 5);
        due.be("strange again", x.set(0, 3), 1);
        x.change(0, 3);
        due.be("a loan has none strange", x.set(0, 3), 0);
        due.be("a loan is not borrowed", x.set(0, 4), 0);
        x.change(0, 0);
        due.be("strange once more", x.strange(0, 1), 1);
        x.image();
        x.take(0);
        due.be("taken", x.count(5), 0);
        x.restore();
        due.be("restored", x.count(5), 1);
        x.copy(0);
        due.be("copied", x.count(5), 2);
        x.swap(0, 1);
        due.be("swapped", x.law(0, 4, 1, 2), 2);
        Due.write(x, "wk/k");
        x.sets();
        due.be("read anew", x.count(5), 0);
    }

    private static void copy() {
        SoundLaws x = Due.read("npat/fat/sat,wk/s/t");
        x.see(0, 0, true);
        due.be("15 behind all", x.copy(0), 2);
        due.be("15 its kind", x.set(2, 0), 1);
        due.be("15 its length", x.set(2, 1), 3);
        due.be("15 its words", x.sound(2, 0, 0) * 100 + x.sound(2, 1, 0) * 10 + x.sound(2, 2, 0), 487);
        due.be("15 its changes", x.set(2, 2), 2);
        due.be("15 what is seen is not copied", x.set(2, 5), 31);
        due.be("15 nor counted", x.count(7), 1);
        x.put(2, 0, 0, 7);
        due.be("15 it stands apart", x.sound(0, 0, 0), 4);
        due.be("15 set 3", x.copy(3), UNKNOWN);
        due.be("15 set -1", x.copy(-1), UNKNOWN);
        due.be("15 the fourth", x.copy(1), 3);
        due.be("15 its length", x.set(3, 1), 1);
        due.be("15 the fifth", x.copy(2), 4);
        due.be("15 the sixth", x.copy(4), 5);
        due.be("15 a seventh", x.copy(0), FULL);
        due.be("15 unknown ahead of full", x.copy(6), UNKNOWN);
        due.be("15 six", x.count(0), 6);
        due.be("15 the sixth is there", x.sound(5, 0, 0), 7);
        due.be("15 laws of six", x.law(0, 5, 1, 1), 2);
    }

    private static void take() {
        SoundLaws x = Due.read("wp/p,na/a,dk/k,ls/s");
        due.be("16 set 4", x.take(4), UNKNOWN);
        due.be("16 set -1", x.take(-1), UNKNOWN);
        due.be("16 the second", x.take(1), 3);
        due.be("16 kinds", x.set(0, 0) * 100 + x.set(1, 0) * 10 + x.set(2, 0), 43);
        due.be("16 sounds", x.sound(0, 0, 0) * 100 + x.sound(1, 0, 0) * 10 + x.sound(2, 0, 0), 467);
        due.be("16 no set 3", x.set(3, 0), UNKNOWN);
        due.be("16 the last", x.take(2), 2);
        due.be("16 the first", x.take(0), 1);
        due.be("16 the law is gone", x.law(0, 4, 1, 0), NONE);
        due.be("16 the only one", x.take(0), STATE);
        due.be("16 unknown ahead of state", x.take(1), UNKNOWN);
        due.be("16 one is left", x.set(0, 0), 4);
        due.be("16 its tongues", x.count(1), 2);
    }

    private static void takeAndSeen() {
        SoundLaws x = Due.read("wp/p,na/a,dk/k");
        x.see(0, 0, true);
        x.see(1, 1, false);
        x.see(2, 2, true);
        x.see(1, 2, false);
        x.take(1);
        due.be("16 what was seen is seen still", x.count(7), 4);
        due.be("16 of those ahead it stays", x.set(0, 5), 17);
        due.be("16 of those behind it stays theirs", x.set(1, 5), 16);
        x.copy(0);
        due.be("16 of a new one nothing is seen", x.set(2, 5), 31);
        x.take(0);
        due.be("16 what was seen of a taken one is not of the next", x.set(0, 5), 16);
        x.image();
        due.be("19 the fifth", x.see(0, 1, false), 5);
        due.be("19 the sixth", x.see(1, 1, false), 6);
        due.be("19 those of taken sets fill it, too", x.see(1, 1, false), FULL);
        x.restore();
        due.be("23 those of taken sets are kept", x.count(7), 4);
        due.be("20 and forgotten", x.forget(), 4);
        due.be("20 none is left", x.see(0, 0, true), 1);
    }

    private static void seeAfterTake() {
        SoundLaws x = Due.read("lpat/pat/pat,wkat/kat/kas,dtak/tak/tas");
        due.be("19 one ahead of take", x.see(0, 0, false), 1);
        due.be("16 two are left", x.take(0), 2);
        due.be("19 another behind it", x.see(0, 0, false), 2);
        due.be("19 of the set as it is now", x.set(0, 5), 14);
        due.be("16 a refused take", x.take(2), UNKNOWN);
        due.be("16 leaves what is seen", x.set(0, 5), 14);
        due.be("16 one is left", x.take(1), 1);
        due.be("16 the only one", x.take(0), STATE);
        due.be("16 of it the same is seen", x.set(0, 5), 14);
    }

    private static void change() {
        SoundLaws x = Due.read("wpa/fa,wpa/ta");
        due.be("17 from plain to old", x.change(1, 4), 0);
        due.be("17 counts twice", x.law(1, 4, 1, 0), 5);
        due.be("17 from old to a cry", x.change(1, 2), 4);
        due.be("17 nothing is rebuilt", x.set(1, 2), NONE);
        due.be("17 it makes no laws", x.law(1, 4, 1, 0), 8);
        due.be("17 its words stay", x.sound(1, 1, 0), 5);
        due.be("17 the same", x.change(1, 2), 2);
        due.be("17 to a name", x.change(1, 1), 2);
        due.be("17 rebuilt again", x.set(1, 2), 1);
        due.be("17 strange", x.strange(1, 1), 1);
        due.be("17 kind 5", x.change(0, 5), OUTSIDE);
        due.be("17 kind -1", x.change(0, -1), OUTSIDE);
        due.be("17 set 2", x.change(2, 0), UNKNOWN);
        due.be("17 unknown ahead of outside", x.change(-1, 5), UNKNOWN);
    }

    private static void swap() {
        SoundLaws x = Due.read("wa/p/a/p,lpa/ta/ka/sa,nt/t/k/k");
        x.see(1, 0, true);
        due.be("18 before", x.count(3), 4 + 1);
        due.be("18 after", x.swap(1, 2), 2 + 2);
        due.be("18 the words", x.sound(0, 1, 0) * 10 + x.sound(0, 2, 0), 14);
        due.be("18 of a loan, too", x.sound(1, 1, 0) * 10 + x.sound(1, 2, 0), 65);
        due.be("18 at all places", x.sound(1, 1, 1), 1);
        due.be("18 of the last", x.sound(2, 1, 0), 6);
        due.be("18 changes of the first", x.set(0, 2), 2);
        due.be("18 what is seen stays", x.set(1, 5), 17);
        due.be("18 back, the other way round", x.swap(2, 1), 5);
        due.be("18 first and last", x.swap(0, 3), 2 + 2);
        due.be("18 the same", x.swap(1, 1), UNKNOWN);
        due.be("18 tongue 4", x.swap(0, 4), UNKNOWN);
        due.be("18 tongue -1", x.swap(-1, 0), UNKNOWN);
        due.be("18 both unknown", x.swap(HIGH, LOW), UNKNOWN);
        SoundLaws loans = Due.read("lp/a,ca/p");
        due.be("18 nothing is rebuilt of any", loans.swap(0, 1), 0);
        due.be("18 yet they change", loans.sound(0, 0, 0), 1);
    }

    private static void see() {
        SoundLaws x = Due.read("wa/a,wa/a");
        due.be("19 what 4", x.see(0, 4, true), OUTSIDE);
        due.be("19 what -1", x.see(0, -1, true), OUTSIDE);
        due.be("19 set 2", x.see(2, 0, true), UNKNOWN);
        due.be("19 unknown ahead of outside", x.see(-1, 4, true), UNKNOWN);
        for (int much = 1; much <= 6; much++) due.be("19 see " + much, x.see(much % 2, 3, false), much);
        due.be("19 a seventh", x.see(0, 0, true), FULL);
        due.be("19 outside ahead of full", x.see(0, 4, true), OUTSIDE);
        due.be("19 unknown ahead of full", x.see(2, 0, true), UNKNOWN);
        due.be("19 six", x.count(7), 6);
        due.be("19 sorts", x.set(0, 5), 31 - 2);
    }

    private static void forget() {
        SoundLaws x = Due.read("wa/a,wa/a");
        due.be("20 nothing", x.forget(), 0);
        x.see(0, 1, true);
        x.see(1, 1, false);
        due.be("20 two", x.forget(), 2);
        due.be("20 none is left", x.count(7), 0);
        due.be("20 all sorts again", x.set(1, 5), 31);
        due.be("20 from 1 again", x.see(0, 0, false), 1);
        due.be("20 of a new object", new SoundLaws().forget(), 0);
    }

    private static void drawn() {
        SoundLaws x = new SoundLaws();
        due.be("21 the seed behind 160 draws", x.drawn(40, 5, 2), draws(5, 160));
        due.be("21 the seed behind 4 draws", x.drawn(1, 0, 2), 1449466924L);
        due.be("21 changes", x.drawn(40, 1111, 0), 156);
        due.be("21 changes of few", x.drawn(31, 19, 0), 127);
        due.be("21 . o s p", x.drawn(1, 0, 0), 6);
        due.be("21 f e k f", x.drawn(1, 2, 0), 3);
        due.be("21 f k k t", x.drawn(1, 3, 0), 2);
        due.be("21 s t t o", x.drawn(1, 7, 0), 3);
        due.be("21 four silences", x.drawn(1, 1346, 0), 0);
        due.be("21 four silences are their own old word", x.drawn(1, 1346, 1), 0);
        due.be("21 f f f f", x.drawn(1, 1350, 1), 0);
        due.be("21 no old word that is none of the four", x.drawn(40, 1111, 1), 0);
        due.be("21 the least times", x.drawn(1, 2, 1), 0);
        due.be("21 the greatest seed", x.drawn(1, HIGH, 2), draws(HIGH, 4));
        due.be("21 times 0", x.drawn(0, 1, 0), OUTSIDE);
        due.be("21 times 41", x.drawn(41, 1, 0), OUTSIDE);
        due.be("21 seed -1", x.drawn(1, -1, 0), OUTSIDE);
        due.be("21 what 3", x.drawn(1, 1, 3), OUTSIDE);
        due.be("21 what -1", x.drawn(1, 1, -1), OUTSIDE);
        due.be("21 low", x.drawn(LOW, LOW, LOW), OUTSIDE);
        SoundLaws y = Due.read("wp/a/e");
        long before = y.digest();
        y.drawn(40, 7, 0);
        due.be("21 the sets stay", y.digest(), before);
    }

    private static long draws(long from, int many) {
        long seed = from;
        for (int draw = 0; draw < many; draw++) seed = (1103515245L * seed + 12345L) % (1L << 31);
        return seed;
    }

    private static void image() {
        SoundLaws x = new SoundLaws();
        Due.write(x, "wa/e");
        due.be("22 no sets", x.image(), STATE);
        x.sets();
        due.be("22 one", x.image(), 1);
        x.copy(0);
        due.be("22 the latest", x.image(), 2);
        x.take(0);
        due.be("22 it has two", x.restore(), 2);
    }

    private static void restore() {
        SoundLaws x = Due.read("wpa/fa,nko/so");
        due.be("23 none was kept", x.restore(), STATE);
        x.see(1, 3, true);
        x.image();
        long before = x.digest();
        x.put(0, 0, 0, 7);
        x.change(1, 4);
        x.copy(1);
        x.swap(0, 1);
        x.see(0, 0, false);
        due.be("23 back", x.restore(), 2);
        due.be("23 all is as it was", x.digest(), before);
        x.take(0);
        x.forget();
        due.be("23 again", x.restore(), 2);
        due.be("23 all is as it was, again", x.digest(), before);
        Due.write(x, "x");
        due.be("23 a refused reading", x.sets(), STATE);
        due.be("23 leaves the image", x.restore(), 2);
        due.be("23 the page is not of it", x.blank(), 1);
        Due.write(x, "wp/p");
        x.sets();
        due.be("23 other sets", x.restore(), STATE);
        due.be("23 they stay", x.count(0), 1);
        x.image();
        due.be("23 a new image", x.restore(), 1);
        due.be("23 read twice", x.count(9), 2);
    }

    private static void count() {
        SoundLaws x = Due.read(PA_FA);
        int[] want = {5, 2, 3, 3, 8, 2, 0, 0, 0, 1};
        for (int what = 0; what < 10; what++) due.be("24 count(" + what + ")", x.count(what), want[what]);
        due.be("24 what 10", x.count(10), OUTSIDE);
        due.be("24 what -1", x.count(-1), OUTSIDE);
        due.be("24 low", x.count(LOW), OUTSIDE);
        due.be("24 high", x.count(HIGH), OUTSIDE);
        x.see(0, 0, true);
        Due.write(x, "wa/");
        due.be("24 seen", x.count(7), 1);
        due.be("24 letters", x.count(8), 3);
        due.be("24 of three", Due.read("wa/a/a").count(2), 5);
        due.be("24 of four", Due.read("wa/a/a/a").count(2), 7);
        due.be("24 borrowed", Due.read("wp/p,wp/p,wp/f").count(6), 1);
    }

    private static long digestByCalls(SoundLaws x, String page) {
        long h = 1459;
        for (int set = 0; set < x.count(0); set++) {
            for (int what = 0; what <= 6; what++) h = 31 * h + x.set(set, what);
            for (int place = 0; place < x.set(set, 1); place++) {
                for (int node = 0; node < x.count(2); node++) h = 31 * h + x.sound(set, node, place);
            }
        }
        for (int tongue = 0; tongue < x.count(1); tongue++) {
            for (int sound = 0; sound <= 8; sound++) {
                for (int at = 0; at < 6; at++) h = 31 * h + x.law(tongue, sound, at / 3, at % 3);
            }
        }
        for (int at = 0; at < page.length(); at++) h = 31 * h + page.charAt(at);
        for (int what = 0; what <= 9; what++) h = 31 * h + x.count(what);
        return h;
    }

    private static void digest() {
        SoundLaws x = new SoundLaws();
        long h = 1459;
        for (int at = 0; at < 10; at++) h *= 31;
        due.be("25 of a new object", x.digest(), h);
        Due.write(x, "w!");
        due.be("25 of letters", x.digest(), digestByCalls(x, "w!"));
        x = Due.read("wpa/fa/p.,lko/so/ko,npt/ff/kk,cp/t/k,dkos/pos/ses");
        x.see(2, 0, false);
        due.be("25 of three tongues", x.digest(), digestByCalls(x, ""));
        Due.write(x, "na/~");
        due.be("25 with a page", x.digest(), digestByCalls(x, "na/~"));
        x.copy(4);
        due.be("25 of six sets", x.digest(), digestByCalls(x, "na/~"));
        x = Due.read("wpa/fa/pe/so,wta/ka/pe/s.");
        due.be("25 of four tongues", x.digest(), digestByCalls(x, ""));
    }

    private static void refusedCallsChangeNothing() {
        SoundLaws x = Due.read("wp/t,lk/s,wa/e,wa/e,wa/e");
        x.copy(0);
        for (int much = 0; much < 6; much++) x.see(0, 0, true);
        Due.write(x, "wa/e/");
        long before = x.digest();
        int[] refused = {x.letter(0), x.sets(), x.set(6, 0), x.as(0, 5), x.sound(0, 3, 0), x.law(2, 0, 0, 0),
            x.strange(1, 0), x.say(1, 0, 0), x.line(0, 0, 0, 2), x.cost(9, 0), x.put(0, 0, 0, 0), x.put(0, 0, 0, 9),
            x.copy(0), x.take(6), x.change(0, 5), x.swap(0, 0), x.see(0, 0, true), x.drawn(0, 0, 0), x.restore(),
            x.count(10)};
        for (int at = 0; at < refused.length; at++) {
            due.hold("refused call " + at, refused[at] <= UNKNOWN && refused[at] >= FULL);
        }
        due.be("nothing changed", x.digest(), before);
    }
}
