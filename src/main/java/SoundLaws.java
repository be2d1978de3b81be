import java.util.Arrays;

/** Sets of related words, the old words behind them, and the laws by which each tongue changed. */
public final class SoundLaws {
    public static final int NONE = -1, UNKNOWN = -101, OUTSIDE = -102, STATE = -103, FULL = -104;

    private static final int SOUNDS = 9;
    private static final int SILENCE = 0;
    private static final String SOUND_LETTERS = ".aeoptksf";

    private static final int KINDS = 5;
    private static final int PLAIN = 0, NAME = 1, CRY = 2;
    private static final String KIND_LETTERS = "wncld";
    private static final int[] WEIGHTS = {1, 0, 0, 0, 2};
    private static final int[] REBUILDS = {1, 1, 0, 0, 1};

    private static final int LEAST_TONGUES = 2, MOST_TONGUES = 4;
    private static final int MOST_NODES = 7;
    private static final int MOST_PLACES = 4;
    private static final int MOST_SETS = 6, MOST_SETS_READ = 5;
    private static final int MOST_LETTERS = 110;
    private static final int GREATEST_CODE = 126;
    private static final int MOST_SEEN = 6;
    private static final int QUESTIONS = 4;
    private static final int MOST_DRAWN = 40;
    private static final int SET_ANSWERS = 7, LAW_ANSWERS = 3, DRAWN_ANSWERS = 3, COUNTS = 10;

    private static final int COST_OF_SILENCE = 3;
    private static final int[] COSTS = {
        0, 3, 3, 3, 3, 3, 3, 3, 3,
        3, 0, 1, 1, 2, 2, 2, 2, 2,
        3, 1, 0, 1, 2, 2, 2, 2, 2,
        3, 1, 1, 0, 2, 2, 2, 2, 2,
        3, 2, 2, 2, 0, 1, 1, 1, 1,
        3, 2, 2, 2, 1, 0, 1, 1, 1,
        3, 2, 2, 2, 1, 1, 0, 1, 1,
        3, 2, 2, 2, 1, 1, 1, 0, 1,
        3, 2, 2, 2, 1, 1, 1, 1, 0};

    /* The pairs of nodes under each node that is no tongue: of two tongues, of three, of four. */
    private static final int[] PAIRS = {0, 1,   0, 1, 3, 2,   0, 1, 2, 3, 4, 5};
    private static final int[] FIRST_PAIR = {0, 0, 0, 2, 6};

    private final int[] page = new int[MOST_LETTERS];
    private int letters;
    private final Reader reader = new Reader();
    private int readings;

    private final Stock stock = new Stock();
    private final Sightings sightings = new Sightings();
    private final Study study = new Study();
    private boolean studied;

    private final Stock keptStock = new Stock();
    private final Sightings keptSightings = new Sightings();
    private boolean kept;

    private final Aligner aligner = new Aligner();
    private final Draws draws = new Draws();

    public SoundLaws() {
    }

    // ---- the sets

    public int letter(int code) {
        if (code < 1 || code > GREATEST_CODE) return OUTSIDE;
        if (letters >= MOST_LETTERS) return FULL;
        page[letters] = code;
        letters++;
        return letters;
    }

    public int blank() {
        int before = letters;
        letters = 0;
        return before;
    }

    public int fault() {
        return readPage();
    }

    public int sets() {
        if (readPage() < letters || !reader.finish()) return STATE;
        stock.become(reader.draft);
        sightings.clear();
        kept = false;
        studied = false;
        letters = 0;
        readings++;
        return stock.size;
    }

    public int set(int set, int what) {
        if (!isSet(set)) return UNKNOWN;
        if (what < 0 || what >= SET_ANSWERS) return OUTSIDE;
        freshenStudy();
        return tellOfSet(set, what);
    }

    public int as(int set, int kind) {
        if (!isSet(set)) return UNKNOWN;
        if (!isKind(kind)) return OUTSIDE;
        return isOfKind(stock.kinds[set], kind) ? set : NONE;
    }

    public int sound(int set, int node, int place) {
        if (!isSet(set) || !isNode(node) || !isPlace(set, place)) return UNKNOWN;
        freshenStudy();
        return tellOfNode(set, node, place);
    }

    // ---- laws

    public int law(int tongue, int sound, int ahead, int what) {
        if (!isTongue(tongue) || !isSound(sound)) return UNKNOWN;
        if (ahead < 0 || ahead > 1 || what < 0 || what >= LAW_ANSWERS) return OUTSIDE;
        freshenStudy();
        return study.laws.tell(lawAt(tongue, sound, ahead), what);
    }

    public int strange(int set, int tongue) {
        if (!isSet(set) || !isTongue(tongue)) return UNKNOWN;
        if (REBUILDS[stock.kinds[set]] == 0) return STATE;
        freshenStudy();
        return study.strangePlaces[set * MOST_TONGUES + tongue];
    }

    public int say(int set, int tongue, int place) {
        if (!isSet(set) || !isTongue(tongue) || !isPlace(set, place)) return UNKNOWN;
        if (REBUILDS[stock.kinds[set]] == 0) return STATE;
        freshenStudy();
        int old = study.oldSound(stock, set, place);
        int said = study.laws.becomes[lawAt(tongue, old, aheadAt(place))];
        return said == NONE ? old : said;
    }

    public int line(int one, int first, int other, int second) {
        if (!isSet(one) || !isTongue(first) || !isSet(other) || !isTongue(second)) return UNKNOWN;
        aligner.readFirst(stock.words, wordAt(one, first), stock.lengths[one]);
        aligner.readSecond(stock.words, wordAt(other, second), stock.lengths[other]);
        return aligner.leastCost();
    }

    public int cost(int one, int other) {
        if (!isSound(one) || !isSound(other)) return UNKNOWN;
        return costOf(one, other);
    }

    // ---- what is done

    public int put(int set, int tongue, int place, int sound) {
        if (!isSet(set) || !isTongue(tongue) || !isPlace(set, place)) return UNKNOWN;
        if (!isSound(sound)) return OUTSIDE;
        if (sound == SILENCE && stock.isSilentBut(set, tongue, place)) return STATE;
        int at = wordAt(set, tongue) + place;
        int before = stock.words[at];
        stock.words[at] = sound;
        studied = false;
        return before;
    }

    public int copy(int set) {
        if (!isSet(set)) return UNKNOWN;
        if (stock.size >= MOST_SETS) return FULL;
        int added = stock.size;
        stock.putOver(set, added);
        stock.size++;
        studied = false;
        return added;
    }

    public int take(int set) {
        if (!isSet(set)) return UNKNOWN;
        if (stock.size == 1) return STATE;
        stock.remove(set);
        sightings.loseSet(set);
        studied = false;
        return stock.size;
    }

    public int change(int set, int kind) {
        if (!isSet(set)) return UNKNOWN;
        if (!isKind(kind)) return OUTSIDE;
        int before = stock.kinds[set];
        stock.kinds[set] = kind;
        studied = false;
        return before;
    }

    public int swap(int one, int other) {
        if (!isTongue(one) || !isTongue(other) || one == other) return UNKNOWN;
        stock.exchange(one, other);
        studied = false;
        freshenStudy();
        return study.changesOfAll;
    }

    // ---- what is seen

    public int see(int set, int what, boolean could) {
        if (!isSet(set)) return UNKNOWN;
        if (what < 0 || what >= QUESTIONS) return OUTSIDE;
        if (sightings.size >= MOST_SEEN) return FULL;
        sightings.add(set, what, could);
        return sightings.size;
    }

    public int forget() {
        int before = sightings.size;
        sightings.clear();
        return before;
    }

    public int drawn(int times, int seed, int what) {
        if (times < 1 || times > MOST_DRAWN || seed < 0) return OUTSIDE;
        if (what < 0 || what >= DRAWN_ANSWERS) return OUTSIDE;
        draws.drawSets(times, seed);
        switch (what) {
            case 0: return draws.changes;
            case 1: return draws.foreign;
            default: return draws.seed;
        }
    }

    // ---- what is told of all

    public int image() {
        if (stock.size == 0) return STATE;
        keptStock.become(stock);
        keptSightings.become(sightings);
        kept = true;
        return stock.size;
    }

    public int restore() {
        if (!kept) return STATE;
        stock.become(keptStock);
        sightings.become(keptSightings);
        studied = false;
        return stock.size;
    }

    public int count(int what) {
        if (what < 0 || what >= COUNTS) return OUTSIDE;
        freshenStudy();
        return tellOfAll(what);
    }

    public long digest() {
        freshenStudy();
        long hash = 1459L;
        for (int set = 0; set < stock.size; set++) hash = digestSet(hash, set);
        for (int tongue = 0; tongue < stock.tongues; tongue++) hash = digestLaws(hash, tongue);
        for (int at = 0; at < letters; at++) hash = mixed(hash, page[at]);
        for (int what = 0; what < COUNTS; what++) hash = mixed(hash, tellOfAll(what));
        return hash;
    }

    private long digestSet(long before, int set) {
        long hash = before;
        for (int what = 0; what < SET_ANSWERS; what++) hash = mixed(hash, tellOfSet(set, what));
        int nodes = nodesOf(stock.tongues);
        for (int place = 0; place < stock.lengths[set]; place++) {
            for (int node = 0; node < nodes; node++) hash = mixed(hash, tellOfNode(set, node, place));
        }
        return hash;
    }

    private long digestLaws(long before, int tongue) {
        long hash = before;
        for (int sound = 0; sound < SOUNDS; sound++) {
            for (int ahead = 0; ahead <= 1; ahead++) {
                int law = lawAt(tongue, sound, ahead);
                for (int what = 0; what < LAW_ANSWERS; what++) hash = mixed(hash, study.laws.tell(law, what));
            }
        }
        return hash;
    }

    private static long mixed(long hash, int number) {
        return 31L * hash + number;
    }

    /* How many letters are read before the first that cannot stand there. */
    private int readPage() {
        reader.start();
        int at = 0;
        while (at < letters && reader.accepts(page[at])) at++;
        return at;
    }

    /* Many calls change the sets with no question between them: only a question pays for the study. */
    private void freshenStudy() {
        if (!studied) study.renew(stock);
        studied = true;
    }

    private int tellOfSet(int set, int what) {
        switch (what) {
            case 0: return stock.kinds[set];
            case 1: return stock.lengths[set];
            case 2: return study.changes[set];
            case 3: return study.strangeInSet(set);
            case 4: return study.borrowedTongues(stock, set);
            case 5: return sightings.sortsOf(set);
            default: return sightings.questionFor(set);
        }
    }

    private int tellOfNode(int set, int node, int place) {
        if (node < stock.tongues) return stock.words[wordAt(set, node) + place];
        if (REBUILDS[stock.kinds[set]] == 0) return NONE;
        return study.sounds[nodesAt(set, place) + node];
    }

    private int tellOfAll(int what) {
        switch (what) {
            case 0: return stock.size;
            case 1: return stock.tongues;
            case 2: return nodesOf(stock.tongues);
            case 3: return study.changesOfAll;
            case 4: return study.laws.known;
            case 5: return study.laws.exceptionsOfAll;
            case 6: return study.borrowedWords(stock);
            case 7: return sightings.size;
            case 8: return letters;
            default: return readings;
        }
    }

    private boolean isSet(int set) {
        return set >= 0 && set < stock.size;
    }

    private boolean isTongue(int tongue) {
        return tongue >= 0 && tongue < stock.tongues;
    }

    private boolean isNode(int node) {
        return node >= 0 && node < nodesOf(stock.tongues);
    }

    private boolean isPlace(int set, int place) {
        return place >= 0 && place < stock.lengths[set];
    }

    private static boolean isSound(int sound) {
        return sound >= 0 && sound < SOUNDS;
    }

    private static boolean isKind(int kind) {
        return kind >= 0 && kind < KINDS;
    }

    private static boolean isOfKind(int kind, int asked) {
        return asked == PLAIN || kind == asked || (kind == CRY && asked == NAME);
    }

    private static int costOf(int one, int other) {
        return COSTS[one * SOUNDS + other];
    }

    private static int nodesOf(int tongues) {
        return tongues < LEAST_TONGUES ? 0 : 2 * tongues - 1;
    }

    private static int aheadAt(int place) {
        return place == 0 ? 1 : 0;
    }

    private static int wordAt(int set, int tongue) {
        return (set * MOST_TONGUES + tongue) * MOST_PLACES;
    }

    private static int nodesAt(int set, int place) {
        return (set * MOST_PLACES + place) * MOST_NODES;
    }

    private static int lawAt(int tongue, int sound, int ahead) {
        return (tongue * SOUNDS + sound) * 2 + ahead;
    }

    /** The sets themselves. */
    private static final class Stock {
        int size;
        int tongues;
        final int[] kinds = new int[MOST_SETS];
        final int[] lengths = new int[MOST_SETS];
        final int[] words = new int[MOST_SETS * MOST_TONGUES * MOST_PLACES];

        void become(Stock other) {
            size = other.size;
            tongues = other.tongues;
            System.arraycopy(other.kinds, 0, kinds, 0, MOST_SETS);
            System.arraycopy(other.lengths, 0, lengths, 0, MOST_SETS);
            System.arraycopy(other.words, 0, words, 0, MOST_SETS * MOST_TONGUES * MOST_PLACES);
        }

        void putOver(int from, int to) {
            kinds[to] = kinds[from];
            lengths[to] = lengths[from];
            System.arraycopy(words, wordAt(from, 0), words, wordAt(to, 0), MOST_TONGUES * MOST_PLACES);
        }

        void remove(int set) {
            for (int next = set + 1; next < size; next++) putOver(next, next - 1);
            size--;
        }

        void exchange(int one, int other) {
            for (int set = 0; set < size; set++) {
                for (int place = 0; place < lengths[set]; place++) {
                    int oneAt = wordAt(set, one) + place;
                    int otherAt = wordAt(set, other) + place;
                    int sound = words[oneAt];
                    words[oneAt] = words[otherAt];
                    words[otherAt] = sound;
                }
            }
        }

        boolean isSilentBut(int set, int tongue, int place) {
            for (int at = 0; at < lengths[set]; at++) {
                if (at != place && words[wordAt(set, tongue) + at] != SILENCE) return false;
            }
            return true;
        }
    }

    /** Reads letters into a draft, so that a text which turns out to be none leaves the sets alone. */
    private static final class Reader {
        final Stock draft = new Stock();
        private boolean kindIsDue;
        private int set;
        private int tongue;
        private int place;
        private boolean wordIsSilent;
        private boolean hasSilentWord;

        void start() {
            draft.size = 0;
            draft.tongues = 0;
            kindIsDue = true;
            hasSilentWord = false;
        }

        boolean accepts(int code) {
            if (kindIsDue) return acceptsKind(KIND_LETTERS.indexOf((char) code));
            if (code == '/') return endsWord();
            if (code == ',') return endsSet();
            return acceptsSound(SOUND_LETTERS.indexOf((char) code));
        }

        /* Whether what was read is whole; the last set has no sign behind it that would end it. */
        boolean finish() {
            if (kindIsDue || !setIsWhole()) return false;
            closeWord();
            draft.tongues = tongue + 1;
            return !hasSilentWord;
        }

        private boolean acceptsKind(int kind) {
            if (kind < 0) return false;
            set = draft.size;
            draft.size++;
            draft.kinds[set] = kind;
            tongue = 0;
            openWord();
            kindIsDue = false;
            return true;
        }

        private boolean acceptsSound(int sound) {
            int room = tongue == 0 ? MOST_PLACES : draft.lengths[set];
            if (sound < 0 || place >= room) return false;
            draft.words[wordAt(set, tongue) + place] = sound;
            place++;
            if (sound != SILENCE) wordIsSilent = false;
            return true;
        }

        private boolean endsWord() {
            int most = draft.tongues == 0 ? MOST_TONGUES : draft.tongues;
            if (!wordIsWhole() || tongue + 1 >= most) return false;
            closeWord();
            tongue++;
            openWord();
            return true;
        }

        private boolean endsSet() {
            if (!setIsWhole() || draft.size >= MOST_SETS_READ) return false;
            closeWord();
            draft.tongues = tongue + 1;
            kindIsDue = true;
            return true;
        }

        private boolean wordIsWhole() {
            return tongue == 0 ? place > 0 : place == draft.lengths[set];
        }

        private boolean setIsWhole() {
            int told = tongue + 1;
            if (!wordIsWhole() || told < LEAST_TONGUES) return false;
            return draft.tongues == 0 || told == draft.tongues;
        }

        private void openWord() {
            place = 0;
            wordIsSilent = true;
        }

        private void closeWord() {
            draft.lengths[set] = place;
            if (wordIsSilent) hasSilentWord = true;
        }
    }

    /** The tree of the tongues, for one place of one set. */
    private static final class Tree {
        private int tongues;
        final int[] sounds = new int[MOST_NODES];
        private final int[] least = new int[MOST_NODES * SOUNDS];

        void plant(int many) {
            tongues = many;
        }

        int root() {
            return nodesOf(tongues) - 1;
        }

        /* The changes that are needed; the root then has its sound. */
        int climb() {
            int nodes = nodesOf(tongues);
            for (int node = tongues; node < nodes; node++) {
                int pair = pairOf(node);
                for (int sound = 0; sound < SOUNDS; sound++) {
                    least[node * SOUNDS + sound] = leastBelow(PAIRS[pair], sound) + leastBelow(PAIRS[pair + 1], sound);
                }
            }
            int root = nodes - 1;
            int rootSound = 0;
            for (int sound = 1; sound < SOUNDS; sound++) {
                if (least[root * SOUNDS + sound] < least[root * SOUNDS + rootSound]) rootSound = sound;
            }
            sounds[root] = rootSound;
            return least[root * SOUNDS + rootSound];
        }

        /* A pair is numbered before what stands above it: counting down, that above has its sound already. */
        void descend() {
            for (int node = root(); node >= tongues; node--) {
                int pair = pairOf(node);
                settle(PAIRS[pair], sounds[node]);
                settle(PAIRS[pair + 1], sounds[node]);
            }
        }

        private int pairOf(int node) {
            return FIRST_PAIR[tongues] + 2 * (node - tongues);
        }

        /* Nearly all time is spent here, so the costs are read from their row without a call. */
        private int leastBelow(int node, int above) {
            int costs = above * SOUNDS;
            if (node < tongues) return COSTS[costs + sounds[node]];
            int from = node * SOUNDS;
            int found = COSTS[costs] + least[from];
            for (int sound = 1; sound < SOUNDS; sound++) {
                int changes = COSTS[costs + sound] + least[from + sound];
                if (changes < found) found = changes;
            }
            return found;
        }

        private void settle(int node, int above) {
            if (node < tongues) return;
            int best = 0;
            int fewest = costOf(above, 0) + least[node * SOUNDS];
            for (int sound = 1; sound < SOUNDS; sound++) {
                int changes = costOf(above, sound) + least[node * SOUNDS + sound];
                if (changes < fewest) {
                    fewest = changes;
                    best = sound;
                }
            }
            sounds[node] = best;
        }
    }

    /** What became of each old sound in each tongue. */
    private static final class Laws {
        final int[] becomes = new int[MOST_TONGUES * SOUNDS * 2];
        private final int[] follows = new int[MOST_TONGUES * SOUNDS * 2];
        private final int[] exceptions = new int[MOST_TONGUES * SOUNDS * 2];
        int known;
        int exceptionsOfAll;
        private final int[] weights = new int[MOST_TONGUES * SOUNDS * 2 * SOUNDS];

        void clear() {
            Arrays.fill(weights, 0);
        }

        void weigh(int law, int sound, int weight) {
            weights[law * SOUNDS + sound] += weight;
        }

        int tell(int law, int what) {
            switch (what) {
                case 0: return becomes[law];
                case 1: return follows[law];
                default: return exceptions[law];
            }
        }

        void settle(int tongues) {
            known = 0;
            exceptionsOfAll = 0;
            for (int law = 0; law < tongues * SOUNDS * 2; law++) {
                settleLaw(law);
                if (becomes[law] != NONE) known++;
                exceptionsOfAll += exceptions[law];
            }
        }

        private void settleLaw(int law) {
            int best = NONE;
            int greatest = 0;
            int all = 0;
            for (int sound = 0; sound < SOUNDS; sound++) {
                int weight = weights[law * SOUNDS + sound];
                all += weight;
                if (weight > greatest) {
                    greatest = weight;
                    best = sound;
                }
            }
            becomes[law] = best;
            follows[law] = greatest;
            exceptions[law] = all - greatest;
        }
    }

    /** All that follows from the sets as they are. */
    private static final class Study {
        final int[] sounds = new int[MOST_SETS * MOST_PLACES * MOST_NODES];
        final int[] changes = new int[MOST_SETS];
        final int[] strangePlaces = new int[MOST_SETS * MOST_TONGUES];
        final Laws laws = new Laws();
        int changesOfAll;
        private final Tree tree = new Tree();

        void renew(Stock stock) {
            tree.plant(stock.tongues);
            changesOfAll = 0;
            for (int set = 0; set < stock.size; set++) rebuild(stock, set);
            laws.clear();
            for (int set = 0; set < stock.size; set++) weigh(stock, set);
            laws.settle(stock.tongues);
            for (int set = 0; set < stock.size; set++) findStrange(stock, set);
        }

        int oldSound(Stock stock, int set, int place) {
            return sounds[nodesAt(set, place) + nodesOf(stock.tongues) - 1];
        }

        int strangeInSet(int set) {
            int all = 0;
            for (int tongue = 0; tongue < MOST_TONGUES; tongue++) all += strangePlaces[set * MOST_TONGUES + tongue];
            return all;
        }

        int borrowedTongues(Stock stock, int set) {
            int bits = 0;
            for (int tongue = 0; tongue < stock.tongues; tongue++) {
                int strange = strangePlaces[set * MOST_TONGUES + tongue];
                if (strange >= 2 || strange == stock.lengths[set]) bits |= 1 << tongue;
            }
            return bits;
        }

        int borrowedWords(Stock stock) {
            int all = 0;
            for (int set = 0; set < stock.size; set++) all += Integer.bitCount(borrowedTongues(stock, set));
            return all;
        }

        private void rebuild(Stock stock, int set) {
            changes[set] = NONE;
            if (REBUILDS[stock.kinds[set]] == 0) return;
            int all = 0;
            for (int place = 0; place < stock.lengths[set]; place++) {
                for (int tongue = 0; tongue < stock.tongues; tongue++) {
                    tree.sounds[tongue] = stock.words[wordAt(set, tongue) + place];
                }
                all += tree.climb();
                tree.descend();
                System.arraycopy(tree.sounds, 0, sounds, nodesAt(set, place), MOST_NODES);
            }
            changes[set] = all;
            changesOfAll += all;
        }

        private void weigh(Stock stock, int set) {
            int weight = WEIGHTS[stock.kinds[set]];
            if (weight == 0) return;
            for (int place = 0; place < stock.lengths[set]; place++) {
                int old = oldSound(stock, set, place);
                for (int tongue = 0; tongue < stock.tongues; tongue++) {
                    int now = stock.words[wordAt(set, tongue) + place];
                    laws.weigh(lawAt(tongue, old, aheadAt(place)), now, weight);
                }
            }
        }

        private void findStrange(Stock stock, int set) {
            for (int tongue = 0; tongue < MOST_TONGUES; tongue++) strangePlaces[set * MOST_TONGUES + tongue] = 0;
            if (REBUILDS[stock.kinds[set]] == 0) return;
            for (int place = 0; place < stock.lengths[set]; place++) {
                int old = oldSound(stock, set, place);
                for (int tongue = 0; tongue < stock.tongues; tongue++) {
                    int told = laws.becomes[lawAt(tongue, old, aheadAt(place))];
                    int now = stock.words[wordAt(set, tongue) + place];
                    if (told != NONE && told != now) strangePlaces[set * MOST_TONGUES + tongue]++;
                }
            }
        }
    }

    /** Lines up two words, their silences left out. */
    private static final class Aligner {
        private final int[] first = new int[MOST_PLACES];
        private final int[] second = new int[MOST_PLACES];
        private int firstLength;
        private int secondLength;
        private final int[] row = new int[MOST_PLACES + 1];

        void readFirst(int[] words, int from, int length) {
            firstLength = readSounds(words, from, length, first);
        }

        void readSecond(int[] words, int from, int length) {
            secondLength = readSounds(words, from, length, second);
        }

        int leastCost() {
            for (int at = 0; at <= secondLength; at++) row[at] = at * COST_OF_SILENCE;
            for (int above = 0; above < firstLength; above++) {
                int slant = row[0];
                row[0] += COST_OF_SILENCE;
                for (int at = 1; at <= secondLength; at++) {
                    int both = slant + costOf(first[above], second[at - 1]);
                    int alone = Math.min(row[at], row[at - 1]) + COST_OF_SILENCE;
                    slant = row[at];
                    row[at] = Math.min(both, alone);
                }
            }
            return row[secondLength];
        }

        private static int readSounds(int[] words, int from, int length, int[] into) {
            int many = 0;
            for (int at = 0; at < length; at++) {
                int sound = words[from + at];
                if (sound != SILENCE) {
                    into[many] = sound;
                    many++;
                }
            }
            return many;
        }
    }

    /** What is seen of sets whose kind is not known. */
    private static final class Sightings {
        int size;
        private final int[] sets = new int[MOST_SEEN];
        private final int[] questions = new int[MOST_SEEN];
        private final boolean[] answers = new boolean[MOST_SEEN];

        void clear() {
            size = 0;
        }

        void add(int set, int question, boolean answer) {
            sets[size] = set;
            questions[size] = question;
            answers[size] = answer;
            size++;
        }

        void become(Sightings other) {
            size = 0;
            for (int at = 0; at < other.size; at++) add(other.sets[at], other.questions[at], other.answers[at]);
        }

        /* What was seen of a taken set is seen still, though of none that there is; of those behind it, it keeps to them. */
        void loseSet(int set) {
            for (int at = 0; at < size; at++) {
                if (sets[at] == set) sets[at] = NONE;
                else if (sets[at] > set) sets[at]--;
            }
        }

        int sortsOf(int set) {
            int sorts = (1 << KINDS) - 1;
            for (int at = 0; at < size; at++) {
                if (sets[at] == set) {
                    int could = sortsThatCould(questions[at]);
                    sorts &= answers[at] ? could : ~could;
                }
            }
            return sorts;
        }

        int questionFor(int set) {
            int sorts = sortsOf(set);
            int best = NONE;
            int fewest = 0;
            for (int question = 0; question < QUESTIONS && sorts != 0; question++) {
                int could = sortsThatCould(question);
                int worst = Math.max(Integer.bitCount(sorts & could), Integer.bitCount(sorts & ~could));
                if (best == NONE || worst < fewest) {
                    best = question;
                    fewest = worst;
                }
            }
            return best;
        }

        private static int sortsThatCould(int question) {
            int sorts = 0;
            for (int kind = 0; kind < KINDS; kind++) {
                if (could(kind, question)) sorts |= 1 << kind;
            }
            return sorts;
        }

        private static boolean could(int kind, int question) {
            switch (question) {
                case 0: return WEIGHTS[kind] > 0;
                case 1: return REBUILDS[kind] != 0;
                case 2: return WEIGHTS[kind] == 2;
                default: return REBUILDS[kind] != 0 && WEIGHTS[kind] == 0;
            }
        }
    }

    /** Sets of four tongues and one place, drawn by a seed. */
    private static final class Draws {
        int seed;
        int changes;
        int foreign;
        private final Tree tree = new Tree();

        void drawSets(int times, int from) {
            seed = from;
            changes = 0;
            foreign = 0;
            tree.plant(MOST_TONGUES);
            for (int time = 0; time < times; time++) {
                for (int tongue = 0; tongue < MOST_TONGUES; tongue++) tree.sounds[tongue] = drawSound();
                changes += tree.climb();
                if (isForeign(tree.sounds[tree.root()])) foreign++;
            }
        }

        private int drawSound() {
            seed = (int) ((1103515245L * seed + 12345L) % 2147483648L);
            return seed / 65536 % SOUNDS;
        }

        private boolean isForeign(int old) {
            for (int tongue = 0; tongue < MOST_TONGUES; tongue++) {
                if (tree.sounds[tongue] == old) return false;
            }
            return true;
        }
    }
}
