import java.math.BigInteger;

/** The edges that the document's part "Terms" names, each sentence by a test of its own. */
public final class TermsTest {
    private static final int NONE = -1, UNKNOWN = -101, STATE = -103, FULL = -104;
    private static final String SOUNDS = ".aeoptksf";
    private static final Due due = new Due();

    public static void main(String[] args) {
        lettersOfSounds();
        lettersOfKinds();
        signsBetween();
        twoToFourTongues();
        oneToFourSounds();
        sameLength();
        notAllSilent();
        oneToFiveSets();
        allOfAsManyTongues();
        weights();
        costs();
        nodesOfTheTree();
        leastChanges();
        leastSoundOfTheRoot();
        leastSoundOfEachNode();
        nothingRebuilt();
        lawAheadOrNot();
        lawOfLikeOnes();
        lawIfNoSuchPlace();
        followsAndExceptions();
        strangeWhereNoLaw();
        borrowed();
        sayWhereNoLaw();
        lineWithoutSilence();
        lineOverNone();
        seenSixAtMost();
        sorts();
        askOfLikeOnes();
        drawnChanges();
        drawsAndTheirRests();
        drawnSilence();
        imageKeeps();
        due.end();
    }

    private static int fault(String text) {
        SoundLaws laws = new SoundLaws();
        Due.write(laws, text);
        return laws.fault();
    }

    private static int sets(String text) {
        SoundLaws laws = new SoundLaws();
        Due.write(laws, text);
        return laws.sets();
    }

    /* A text is read as so many sets; or it is none, and its first wrong letter is told. */
    private static void readable(String sentence, String text, int many) {
        due.be(sentence + " " + text, sets(text), many);
        due.be(sentence + " " + text + ", no fault", fault(text), text.length());
    }

    private static void wrongAt(String sentence, String text, int place) {
        due.be(sentence + " " + text, sets(text), STATE);
        due.be(sentence + " " + text + ", its fault", fault(text), place);
    }

    /* Which of all codes may stand behind a beginning. */
    private static void mayFollow(String sentence, String beginning, String letters) {
        for (int code = 1; code <= 126; code++) {
            boolean may = letters.indexOf((char) code) >= 0;
            due.be(sentence + " " + beginning + ", code " + code, fault(beginning + (char) code), beginning.length() + (may ? 1 : 0));
        }
    }

    private static void lettersOfSounds() {
        String sentence = "SOUNDS \"0 \".\", none; 1 \"a\" .. 8 \"f\"\"";
        for (int sound = 0; sound <= 8; sound++) {
            SoundLaws laws = Due.read("wp" + SOUNDS.charAt(sound) + "/pp");
            due.be(sentence + " " + sound, laws.sound(0, 0, 1), sound);
        }
        mayFollow(sentence, "w", SOUNDS);
        mayFollow(sentence, "wp/", SOUNDS);
    }

    private static void lettersOfKinds() {
        for (int kind = 0; kind <= 4; kind++) due.be("KINDS " + kind, Due.read("wncld".charAt(kind) + "p/p").set(0, 0), kind);
        mayFollow("KINDS", "", "wncld");
        mayFollow("KINDS", "wp/p,", "wncld");
    }

    private static void signsBetween() {
        mayFollow("\"with \"/\" between\"", "wp", SOUNDS + "/");
        mayFollow("\"with \"/\" between\"", "wptks", "/");
        mayFollow("\"with \"/\" between\"", "wpp/p", SOUNDS);
        mayFollow("\"with \",\" between\"", "wp/p", "/,");
        mayFollow("\"with \",\" between\"", "wp/p/p/p", ",");
    }

    private static void twoToFourTongues() {
        String sentence = "\"two to four TONGUES\"";
        wrongAt(sentence, "wp", 2);
        wrongAt(sentence, "wp,wp", 2);
        readable(sentence, "wp/t", 1);
        readable(sentence, "wp/t/k", 1);
        readable(sentence, "wp/t/k/s", 1);
        wrongAt(sentence, "wp/t/k/s/f", 8);
        due.be(sentence + " two", Due.read("wp/t").count(1), 2);
        due.be(sentence + " four", Due.read("wp/t/k/s").count(1), 4);
        due.be(sentence + " \"numbered from 0\"", Due.read("wp/t/k/s").sound(0, 0, 0), 4);
        due.be(sentence + " the last is 3", Due.read("wp/t/k/s").sound(0, 3, 0), 7);
    }

    private static void oneToFourSounds() {
        String sentence = "\"one to four SOUNDS\"";
        wrongAt(sentence, "w/", 1);
        wrongAt(sentence, "wp//", 3);
        wrongAt(sentence, "wp/,", 3);
        wrongAt(sentence, "wp/", 3);
        readable(sentence, "wp/t", 1);
        readable(sentence, "wptks/taeo", 1);
        wrongAt(sentence, "wptksf/taeof", 5);
        due.be(sentence + " one", Due.read("wp/t").set(0, 1), 1);
        due.be(sentence + " four", Due.read("wptks/taeo").set(0, 1), 4);
        due.be(sentence + " \"at PLACES from 0\"", Due.read("wptks/taeo").sound(0, 0, 0), 4);
        due.be(sentence + " the last is 3", Due.read("wptks/taeo").sound(0, 0, 3), 7);
        due.be(sentence + " each set has its own", Due.read("wp/t,wptks/taeo").set(1, 1), 4);
    }

    private static void sameLength() {
        String sentence = "\"a WORD of the same LENGTH\"";
        wrongAt(sentence, "wpa/p", 5);
        wrongAt(sentence, "wpa/p/pa", 5);
        wrongAt(sentence, "wpa/p,wp/p", 5);
        wrongAt(sentence, "wp/pa", 4);
        wrongAt(sentence, "wpa/pa/pat", 9);
        wrongAt(sentence, "wpatk/pat/patk", 9);
        readable(sentence, "wpat/pat/pat", 1);
        readable(sentence, "wp/p,wpa/pa", 2);
    }

    private static void notAllSilent() {
        String sentence = "\"not all \".\" in a WORD\"";
        for (int length = 1; length <= 4; length++) {
            String silent = "....".substring(0, length);
            String full = "ptks".substring(0, length);
            for (int at = 0; at < 3; at++) {
                String text = "w" + (at == 0 ? silent : full) + "/" + (at == 1 ? silent : full) + "/" + (at == 2 ? silent : full);
                due.be(sentence + " " + text, sets(text), STATE);
                due.be(sentence + " no matter for fault()", fault(text), text.length());
            }
            for (int only = 0; only < length; only++) {
                String one = silent.substring(0, only) + "f" + silent.substring(only + 1);
                readable(sentence, "w" + one + "/" + one, 1);
            }
        }
        due.be(sentence + " of the last set", sets("wp/p,wp/p,wp/p,wp/p,wp/."), STATE);
        due.be(sentence + " of a set between, its first word", sets("wp/p,w./p,wp/p"), STATE);
        due.be(sentence + " of a set between, its last word", sets("wp/p,wp/.,wp/p"), STATE);
        due.be(sentence + " of the first set, its last word", sets("wp/.,wp/p"), STATE);
        due.be(sentence + " of a loan, too", sets("l./p"), STATE);
    }

    private static void oneToFiveSets() {
        String sentence = "\"one to five with \",\" between\"";
        due.be(sentence + " none", sets(""), STATE);
        readable(sentence, "wp/p", 1);
        wrongAt(sentence, "wp/p,", 5);
        wrongAt(sentence, ",wp/p", 0);
        wrongAt(sentence, "wp/p,,wp/p", 5);
        readable(sentence, "wp/p,wp/p", 2);
        readable(sentence, "wp/p,wp/p,wp/p,wp/p,wp/p", 5);
        wrongAt(sentence, "wp/p,wp/p,wp/p,wp/p,wp/p,", 24);
        wrongAt(sentence, "wp/p,wp/p,wp/p,wp/p,wp/p,wp/p", 24);
    }

    private static void allOfAsManyTongues() {
        String sentence = "\"all of as many TONGUES\"";
        wrongAt(sentence, "wp/p,wp/p/p", 9);
        wrongAt(sentence, "wp/p/p,wp/p", 11);
        wrongAt(sentence, "wp/p/p,wp/p,", 11);
        wrongAt(sentence, "wp/p/p,wp/p/p/p", 13);
        wrongAt(sentence, "wp/p/p/p,wp/p/p,wp/p/p/p", 15);
        wrongAt(sentence, "wp/p,wp/p,wp/p,wp/p,wp/p/p", 24);
        readable(sentence, "wp/p/p/p,wp/p/p/p", 2);
        readable(sentence, "wp/p/p,wp/p/p,wp/p/p,wp/p/p,wp/p/p", 5);
        wrongAt(sentence, "wp/p,wp", 7);
    }

    private static void weights() {
        int[] weight = {1, 0, 0, 0, 2};
        for (int kind = 0; kind <= 4; kind++) {
            SoundLaws laws = Due.read("wncld".charAt(kind) + "p/p");
            due.be("WEIGHT of kind " + kind, laws.law(0, 4, 1, 1), weight[kind]);
            due.be("laws of kind " + kind, laws.count(4), weight[kind] == 0 ? 0 : 2);
            due.be("exceptions of kind " + kind, laws.count(5), 0);
        }
    }

    private static int cost(int one, int other) {
        if (one == other) return 0;
        if (one == 0 || other == 0) return 3;
        return one <= 3 == other <= 3 ? 1 : 2;
    }

    private static void costs() {
        SoundLaws laws = new SoundLaws();
        due.be("COST \"0, if they are the same\", of none", laws.cost(0, 0), 0);
        due.be("COST \"3, if one is none\", the least", laws.cost(0, 1), 3);
        due.be("COST \"3, if one is none\", the last", laws.cost(8, 0), 3);
        due.be("COST \"1, if both are VOWELS\"", laws.cost(1, 3), 1);
        due.be("COST the last VOWEL and the first of the others", laws.cost(3, 4), 2);
        due.be("COST \"or neither\"", laws.cost(4, 8), 1);
        for (int pair = 0; pair < 81; pair++) due.be("COST " + pair, laws.cost(pair / 9, pair % 9), cost(pair / 9, pair % 9));
    }

    private static void nodes(String sentence, String text, int... sounds) {
        SoundLaws laws = Due.read(text);
        due.be(sentence + " " + text + ": how many", laws.count(2), sounds.length);
        for (int node = 0; node < sounds.length; node++) due.be(sentence + " " + text + ": " + node, laws.sound(0, node, 0), sounds[node]);
        due.be(sentence + " " + text + ": no more", laws.sound(0, sounds.length, 0), UNKNOWN);
    }

    private static void nodesOfTheTree() {
        nodes("\"of two TONGUES one NODE\"", "wt/p", 5, 4, 4);
        nodes("\"of three: that one, and one above it and 2\"", "wp/p/a", 4, 4, 1, 4, 1);
        nodes("\"of four: one above 0 and 1, one above 2 and 3\"", "wp/p/a/a", 4, 4, 1, 1, 4, 1, 1);
        due.be("of four, pairs that are alike", Due.read("wp/p/a/a").set(0, 2), 2);
        due.be("of four, pairs that are not", Due.read("wp/a/p/a").set(0, 2), 4);
    }

    /* All sounds for the nodes above four tongues are tried. */
    private static int fewest(int... sounds) {
        int fewest = 99;
        for (int choice = 0; choice < 729; choice++) {
            int left = choice % 9;
            int right = choice / 9 % 9;
            int root = choice / 81;
            int all = cost(left, sounds[0]) + cost(left, sounds[1]) + cost(right, sounds[2]) + cost(right, sounds[3])
                + cost(root, left) + cost(root, right);
            fewest = Math.min(fewest, all);
        }
        return fewest;
    }

    private static void leastChanges() {
        for (int choice = 0; choice < 4096; choice += 7) {
            int[] sounds = {1 + choice % 8, 1 + choice / 8 % 8, 1 + choice / 64 % 8, 1 + choice / 512};
            StringBuilder text = new StringBuilder("n");
            for (int sound : sounds) text.append(text.length() == 1 ? "" : "/").append(SOUNDS.charAt(sound));
            due.be("\"come to the least, CHANGES\" " + text, Due.read(text.toString()).set(0, 2), fewest(sounds));
        }
        due.be("CHANGES of none", Due.read("wptks/ptks/ptks/ptks").set(0, 2), 0);
        due.be("CHANGES of a place with one silence", Due.read("w.a/pa/pa/pa").set(0, 2), 3);
        due.be("CHANGES of a place with two silences", Due.read("w.a/.a/pa/pa").set(0, 2), 3);
        due.be("CHANGES of a place with silences apart", Due.read("w.a/pa/.a/pa").set(0, 2), 6);
    }

    private static void leastSoundOfTheRoot() {
        String sentence = "\"the ROOT has the least SOUND that can be\"";
        nodes(sentence, "wf/s", 8, 7, 7);
        nodes(sentence, "ws/f", 7, 8, 7);
        nodes(sentence, "wa./.a", 1, 0, 0);
        nodes(sentence, "wf/s/k/t", 8, 7, 6, 5, 5, 5, 5);
        nodes(sentence, "wo/e/a/p", 3, 2, 1, 4, 1, 1, 1);
    }

    private static void leastSoundOfEachNode() {
        String sentence = "\"the least with which it still comes to CHANGES, that above it being as it is\"";
        nodes(sentence, "wf/s/p/p", 8, 7, 4, 4, 4, 4, 4);
        nodes(sentence, "wf/f/p/p", 8, 8, 4, 4, 8, 4, 4);
        nodes(sentence, "wa/p/e/k", 1, 4, 2, 6, 1, 1, 1);
        nodes(sentence, "wf/k/t", 8, 6, 5, 5, 5);
        nodes(sentence, "wk/k/t", 6, 6, 5, 6, 5);
        nodes(sentence + ", none", "w.p/.p/pp/pp", 0, 0, 4, 4, 0, 4, 0);
        nodes(sentence + ", none", "wpp/pp/.p/.p", 4, 4, 0, 0, 4, 0, 0);
        nodes(sentence + ", none", "w.p/.p/pp", 0, 0, 4, 0, 0);
    }

    private static void nothingRebuilt() {
        SoundLaws laws = Due.read("wp/t,np/t,cp/t,lp/t,dp/t");
        int[] root = {4, 4, NONE, NONE, 4};
        for (int set = 0; set < 5; set++) due.be("\"Of a CRY, of a LOAN nothing is REBUILT\" " + set, laws.sound(set, 2, 0), root[set]);
        due.be("nothing of both is counted", laws.count(3), 3);
    }

    private static void law(String sentence, SoundLaws laws, int sound, int ahead, int... answers) {
        for (int what = 0; what < 3; what++) due.be(sentence + ", " + what, laws.law(1, sound, ahead, what), answers[what]);
    }

    private static void lawAheadOrNot() {
        SoundLaws laws = Due.read("wpppp/ptts,nppp/ppp");
        law("\"AHEAD (PLACE 0)\"", laws, 4, 1, 4, 1, 0);
        law("\"or not (else)\": places 1 to 3", laws, 4, 0, 5, 2, 1);
        laws = Due.read("wp/s");
        law("a word of one sound is ahead", laws, 4, 1, 7, 1, 0);
        law("nothing else is there", laws, 4, 0, NONE, 0, 0);
    }

    private static void lawOfLikeOnes() {
        String sentence = "\"of like ones the least SOUND\"";
        law(sentence, Due.read("wp/t,wp/s"), 4, 1, 5, 1, 1);
        law(sentence + ", the other way", Due.read("wp/s,wp/t"), 4, 1, 5, 1, 1);
        law("\"that which has the greatest WEIGHT\"", Due.read("wp/s,wp/t,wp/s"), 4, 1, 7, 2, 1);
        law(sentence + ", two and an old one", Due.read("wp/t,wp/t,dp/s"), 4, 1, 5, 2, 2);
        law("an old one counts twice", Due.read("wp/t,dp/s"), 4, 1, 7, 2, 1);
        law("\"all together\"", Due.read("wp/t,wp/t,dp/s,wp/s"), 4, 1, 7, 3, 2);
        law(sentence + ", none is the least", Due.read("wpa/.a/pa,wpa/fa/pa"), 4, 1, 0, 1, 1);
        law(sentence + ", the first VOWEL and the last of the others", Due.read("wpa/aa/pa,wpa/fa/pa"), 4, 1, 1, 1, 1);
    }

    private static void lawIfNoSuchPlace() {
        String sentence = "\"none, if there is no such PLACE\"";
        SoundLaws laws = Due.read("wpa/fa,nto/ko,cse/ke,lko/so");
        law(sentence + ": there is one", laws, 4, 1, 8, 1, 0);
        law(sentence + ": there is one, not ahead", laws, 1, 0, 1, 1, 0);
        law(sentence + ": not ahead", laws, 4, 0, NONE, 0, 0);
        law(sentence + ": ahead", laws, 1, 1, NONE, 0, 0);
        law(sentence + ": only in a name", laws, 5, 1, NONE, 0, 0);
        law(sentence + ": only in a cry", laws, 7, 1, NONE, 0, 0);
        law(sentence + ": only in a loan", laws, 6, 1, NONE, 0, 0);
        law(sentence + ": not in the old word", laws, 8, 1, NONE, 0, 0);
        laws.change(1, 0);
        law(sentence + ": now there is one", laws, 5, 1, 6, 1, 0);
    }

    private static void followsAndExceptions() {
        law("\"EXCEPTIONS are the WEIGHT of the others\"", Due.read("wp/t,wp/s,wp/f,dp/k"), 4, 1, 6, 2, 3);
        SoundLaws most = Due.read("dpppp/pppp,dpppp/pppp,dpppp/pppp,dpppp/pppp,dpppp/pppp");
        most.copy(0);
        law("the most that can follow, ahead", most, 4, 1, 4, 12, 0);
        law("the most that can follow, else", most, 4, 0, 4, 36, 0);
        most.put(0, 1, 3, 5);
        law("an exception of weight 2", most, 4, 0, 4, 34, 2);
    }

    private static void strangeWhereNoLaw() {
        SoundLaws laws = Due.read("wpa/fa,npo/ke");
        due.be("\"where there is no LAW it is not STRANGE\"", laws.strange(1, 1), 1);
        laws.change(0, 1);
        due.be("\"where there is no LAW it is not STRANGE\", none at all", laws.strange(1, 1), 0);
        laws.change(0, 0);
        laws.put(1, 1, 0, 8);
        due.be("as the law tells", laws.strange(1, 1), 0);
    }

    /* The old one makes every law for p; in the name's second word some are t. */
    private static void borrowed() {
        String sentence = "\"if two or more are, or all of its PLACES\"";
        for (int length = 1; length <= 4; length++) {
            for (int strange = 0; strange <= length; strange++) {
                String word = "tttt".substring(0, strange) + "pppp".substring(0, length - strange);
                SoundLaws laws = Due.read("dpppp/pppp,n" + "pppp".substring(0, length) + "/" + word);
                boolean isBorrowed = strange >= 2 || length == 1 && strange == 1;
                due.be("STRANGE in " + word, laws.set(1, 3), strange);
                due.be(sentence + " " + word, laws.set(1, 4), isBorrowed ? 2 : 0);
                due.be(sentence + " " + word + ", counted", laws.count(6), isBorrowed ? 1 : 0);
            }
        }
    }

    private static void sayWhereNoLaw() {
        SoundLaws laws = Due.read("wpa/fe/pa,npo/po/po,nko/so/ko");
        due.be("\"each SOUND by its LAW\"", laws.say(1, 1, 0), 8);
        due.be("\"where there is no LAW, as it is\", behind", laws.say(1, 1, 1), 3);
        due.be("\"where there is no LAW, as it is\", ahead", laws.say(2, 1, 0), 6);
        laws.change(0, 1);
        due.be("\"where there is no LAW, as it is\", none at all", laws.say(1, 1, 0), 4);
        SoundLaws silence = Due.read("wpa/.a/pa");
        due.be("by a law to none", silence.say(0, 1, 0), 0);
    }

    private static void line(String sentence, String text, int cost) {
        SoundLaws laws = Due.read(text);
        int last = laws.count(0) - 1;
        due.be(sentence + " " + text, laws.line(0, 0, last, 1), cost);
        due.be(sentence + " " + text + ", the other way", laws.line(last, 1, 0, 0), cost);
    }

    private static void lineWithoutSilence() {
        String sentence = "\"(without their \".\")\"";
        line(sentence, "wp.../...p", 0);
        line(sentence, "wp.t./.p.t", 0);
        line(sentence, "w...p/ptks", 9);
        line(sentence, "w...a/k...", 2);
        line(sentence, "wptks/ptks", 0);
    }

    private static void lineOverNone() {
        String sentence = "\"over one of the other one (COST of both), or over none (3)\"";
        line(sentence, "wp/t", 1);
        line(sentence, "wp/a", 2);
        line(sentence, "wpt/pt,wt/t", 3);
        line(sentence, "wpapa/apap", 6);
        line(sentence, "wpap/apa", 6);
        line(sentence, "wpa/ap", 4);
        line(sentence, "waeoa/ptks", 8);
        line(sentence, "waeoa/aeoa,wp/p", 11);
    }

    private static void seenSixAtMost() {
        SoundLaws laws = Due.read("wp/p,wp/p,wp/p,wp/p,wp/p");
        laws.copy(0);
        for (int set = 0; set < 6; set++) due.be("\"SEEN (6 at most)\"", laws.see(set, 2, true), set + 1);
        due.be("\"SEEN (6 at most)\", a seventh", laws.see(0, 2, true), FULL);
        due.be("\"SEEN (6 at most)\", six", laws.count(7), 6);
        for (int set = 0; set < 6; set++) due.be("each of its set", laws.set(set, 5), 16);
    }

    /* For each question the kinds that could, as bits. */
    private static final int[] COULD = {1 + 16, 1 + 2 + 16, 16, 2};

    private static int askFor(int sorts) {
        int best = NONE;
        int fewest = 6;
        for (int question = 3; question >= 0 && sorts != 0; question--) {
            int worst = Math.max(Integer.bitCount(sorts & COULD[question]), Integer.bitCount(sorts & ~COULD[question]));
            if (worst <= fewest) {
                fewest = worst;
                best = question;
            }
        }
        return best;
    }

    /* Each question is not asked, could be so, or could not: all ways. */
    private static void sorts() {
        for (int way = 0; way < 81; way++) {
            int[] answers = {way % 3, way / 3 % 3, way / 9 % 3, way / 27};
            SoundLaws laws = Due.read("wp/p,wp/p");
            int left = 31;
            for (int question = 0; question < 4; question++) {
                if (answers[question] == 0) continue;
                laws.see(1, question, answers[question] == 1);
                left &= answers[question] == 1 ? COULD[question] : ~COULD[question];
            }
            due.be("\"SORTS\" of way " + way, laws.set(1, 5), left);
            due.be("\"ASK\" of way " + way, laws.set(1, 6), askFor(left));
            due.be("\"SORTS\" of a set of which nothing is SEEN", laws.set(0, 5), 31);
        }
    }

    private static int ask(int... seen) {
        SoundLaws laws = Due.read("wp/p");
        for (int at = 0; at < seen.length; at += 2) laws.see(0, seen[at], seen[at + 1] == 1);
        return laws.set(0, 6);
    }

    private static void askOfLikeOnes() {
        due.be("\"fewest of these are left at worst\": all five, 0 and 1 leave three", ask(), 0);
        due.be("of w, d only 2 tells", ask(0, 1), 2);
        due.be("of n, c, l only 1 and 3 tell: \"of like ones the least\"", ask(0, 0), 1);
        due.be("of c, l none tells: \"of like ones the least\"", ask(1, 0), 0);
        due.be("of one all are alike: \"of like ones the least\"", ask(2, 1), 0);
        due.be("\"none, if there are none\"", ask(2, 1, 2, 0), NONE);
    }

    private static BigInteger next(BigInteger seed) {
        return seed.multiply(BigInteger.valueOf(1103515245)).add(BigInteger.valueOf(12345)).mod(BigInteger.ONE.shiftLeft(31));
    }

    /* The seed of which the next one is this. */
    private static BigInteger before(BigInteger seed) {
        BigInteger rest = BigInteger.ONE.shiftLeft(31);
        return seed.subtract(BigInteger.valueOf(12345)).multiply(BigInteger.valueOf(1103515245).modInverse(rest)).mod(rest);
    }

    private static int drawnByHand(int times, BigInteger from) {
        BigInteger seed = from;
        int changes = 0;
        for (int time = 0; time < times; time++) {
            int[] sounds = new int[4];
            for (int tongue = 0; tongue < 4; tongue++) {
                seed = next(seed);
                sounds[tongue] = seed.shiftRight(16).mod(BigInteger.valueOf(9)).intValue();
            }
            changes += fewest(sounds);
        }
        return changes;
    }

    private static void drawnChanges() {
        SoundLaws laws = new SoundLaws();
        for (int seed = 0; seed < 120; seed++) {
            due.be("\"CHANGES of all, together\" " + seed, laws.drawn(1, seed, 0), drawnByHand(1, BigInteger.valueOf(seed)));
        }
        due.be("\"so many plain SETS\", forty", laws.drawn(40, 77, 0), drawnByHand(40, BigInteger.valueOf(77)));
        due.be("\"so many plain SETS\", two", laws.drawn(2, 77, 0), drawnByHand(2, BigInteger.valueOf(77)));
        for (int seed = 0; seed < 200; seed++) due.be("\"none of the four SOUNDS\" " + seed, laws.drawn(40, seed * 9973, 1), 0);
    }

    /* The first draw's SEED is the last one, or the first one, of those that draw the same. */
    private static void drawsAndTheirRests() {
        SoundLaws laws = new SoundLaws();
        long[] seeds = {0, 65535, 65536, 9 * 65536 - 1, 9 * 65536, 18 * 65536 - 1, 18 * 65536, (1L << 31) - 65536, (1L << 31) - 1};
        for (long seed : seeds) {
            BigInteger from = before(BigInteger.valueOf(seed));
            due.be("\"by 65536 (rounded down), its rest\" " + seed, laws.drawn(1, from.intValueExact(), 0), drawnByHand(1, from));
            BigInteger fourBefore = before(before(before(from)));
            due.be("\"its rest by 2 to the 31\" " + seed, laws.drawn(1, fourBefore.intValueExact(), 2), seed);
        }
        due.be("the greatest SEED", laws.drawn(1, Integer.MAX_VALUE, 0), drawnByHand(1, BigInteger.valueOf(Integer.MAX_VALUE)));
        due.be("the least SEED", laws.drawn(1, 0, 0), 6);
    }

    private static void drawnSilence() {
        SoundLaws laws = new SoundLaws();
        due.be("\"(a WORD of \".\" alone is one there)\", one of four", laws.drawn(1, 0, 0), 6);
        due.be("\"(a WORD of \".\" alone is one there)\", all four", laws.drawn(1, 1346, 0), 0);
        due.be("their old word is one of the four", laws.drawn(1, 1346, 1), 0);
    }

    private static void imageKeeps() {
        SoundLaws laws = Due.read("wp/p,lk/s");
        laws.see(1, 2, true);
        laws.image();
        long then = laws.digest();
        laws.swap(0, 1);
        laws.change(0, 2);
        laws.take(1);
        laws.forget();
        laws.see(0, 0, true);
        laws.restore();
        due.be("\"An IMAGE keeps the SETS, SEEN\"", laws.digest(), then);
        laws.letter('w');
        laws.restore();
        due.be("not the page", laws.count(8), 1);
    }
}
