import java.util.ArrayList;
import java.util.HashMap;
import java.util.List;
import java.util.Map;
import java.util.regex.Matcher;
import java.util.regex.Pattern;

/**
 * The document said a second time, as slowly and plainly as can be: texts instead of rows, every choice
 * of sounds for the tree tried, the grammar as a regular expression. It shares no code with the class.
 */
final class Model {
    private static final int NONE = -1, UNKNOWN = -101, OUTSIDE = -102, STATE = -103, FULL = -104;
    private static final String SOUNDS = ".aeoptksf";
    private static final String KINDS = "wncld";
    private static final Pattern GRAMMAR = grammar();
    private static final Map<String, String> REBUILT = new HashMap<>();

    /* The number of a set that has been taken out. */
    private static final int NOWHERE = 1000;

    private record Seen(int set, int what, boolean could) { }

    private String page = "";
    private List<String> sets = new ArrayList<>();
    private List<Seen> seen = new ArrayList<>();
    private List<String> keptSets;
    private List<Seen> keptSeen;
    private int readings;

    private static Pattern grammar() {
        StringBuilder all = new StringBuilder();
        for (int tongues = 2; tongues <= 4; tongues++) {
            StringBuilder set = new StringBuilder();
            for (int length = 1; length <= 4; length++) {
                String word = "[.aeoptksf]{" + length + "}";
                set.append(length == 1 ? "" : "|").append("(?:").append(word);
                set.append("(?:/" + word + "){" + (tongues - 1) + "})");
            }
            String one = "[wncld](?:" + set + ")";
            all.append(tongues == 2 ? "" : "|").append("(?:" + one + "(?:," + one + "){0,4})");
        }
        return Pattern.compile(all.toString());
    }

    int letter(int code) {
        if (code < 1 || code > 126) return OUTSIDE;
        if (page.length() == 110) return FULL;
        page += (char) code;
        return page.length();
    }

    int blank() {
        int many = page.length();
        page = "";
        return many;
    }

    int fault() {
        for (int end = 1; end <= page.length(); end++) {
            Matcher matcher = GRAMMAR.matcher(page.substring(0, end));
            if (!matcher.matches() && !matcher.hitEnd()) return end - 1;
        }
        return page.length();
    }

    int sets() {
        if (!GRAMMAR.matcher(page).matches()) return STATE;
        for (String set : page.split(",")) {
            for (String word : set.substring(1).split("/")) {
                if (word.replace(".", "").isEmpty()) return STATE;
            }
        }
        sets = new ArrayList<>(List.of(page.split(",")));
        seen = new ArrayList<>();
        keptSets = null;
        readings++;
        page = "";
        return sets.size();
    }

    private int tongues() {
        return sets.isEmpty() ? 0 : words(0).length;
    }

    private int nodes() {
        return sets.isEmpty() ? 0 : 2 * tongues() - 1;
    }

    private int kind(int set) {
        return KINDS.indexOf(sets.get(set).charAt(0));
    }

    private String[] words(int set) {
        return sets.get(set).substring(1).split("/");
    }

    private int length(int set) {
        return words(set)[0].length();
    }

    private int at(int set, int tongue, int place) {
        return SOUNDS.indexOf(words(set)[tongue].charAt(place));
    }

    private boolean noSet(int set) {
        return set < 0 || set >= sets.size();
    }

    private boolean noTongue(int tongue) {
        return tongue < 0 || tongue >= tongues();
    }

    private static boolean isRebuilt(int kind) {
        return kind != 2 && kind != 3;
    }

    private static int weight(int kind) {
        return kind == 0 ? 1 : kind == 4 ? 2 : 0;
    }

    /* All sounds of all nodes, then how many changes: the first of the cheapest, the root tried first. */
    private static String rebuild(String leaves) {
        return REBUILT.computeIfAbsent(leaves, Model::tryAll);
    }

    private static String tryAll(String leaves) {
        int tongues = leaves.length();
        int inner = tongues - 1;
        int[] above = tongues == 2 ? new int[] {2, 2}
            : tongues == 3 ? new int[] {3, 3, 4, 4}
            : new int[] {4, 4, 5, 5, 6, 6};
        int choices = 1;
        for (int node = 0; node < inner; node++) choices *= 9;
        int[] sounds = new int[tongues + inner];
        for (int leaf = 0; leaf < tongues; leaf++) sounds[leaf] = SOUNDS.indexOf(leaves.charAt(leaf));
        int fewest = Integer.MAX_VALUE;
        String best = "";
        for (int choice = 0; choice < choices; choice++) {
            int rest = choice;
            for (int node = tongues; node < tongues + inner; node++) {
                sounds[node] = rest % 9;
                rest /= 9;
            }
            int changes = 0;
            for (int node = 0; node < above.length; node++) changes += costOf(sounds[node], sounds[above[node]]);
            if (changes < fewest) {
                fewest = changes;
                StringBuilder told = new StringBuilder();
                for (int sound : sounds) told.append(SOUNDS.charAt(sound));
                best = told.append(changes).toString();
            }
        }
        return best;
    }

    private static int costOf(int one, int other) {
        if (one == other) return 0;
        if (one * other == 0) return 3;
        return "aeo".indexOf(SOUNDS.charAt(one)) >= 0 == "aeo".indexOf(SOUNDS.charAt(other)) >= 0 ? 1 : 2;
    }

    private String column(int set, int place) {
        StringBuilder leaves = new StringBuilder();
        for (String word : words(set)) leaves.append(word.charAt(place));
        return rebuild(leaves.toString());
    }

    private int old(int set, int place) {
        return SOUNDS.indexOf(column(set, place).charAt(nodes() - 1));
    }

    private int changes(int set) {
        int all = 0;
        for (int place = 0; place < length(set); place++) all += Integer.parseInt(column(set, place).substring(nodes()));
        return all;
    }

    private int[] lawOf(int tongue, int sound, boolean ahead) {
        int[] weights = new int[9];
        int all = 0;
        for (int set = 0; set < sets.size(); set++) {
            if (weight(kind(set)) == 0) continue;
            for (int place = 0; place < length(set); place++) {
                if (place == 0 != ahead || old(set, place) != sound) continue;
                weights[at(set, tongue, place)] += weight(kind(set));
                all += weight(kind(set));
            }
        }
        if (all == 0) return new int[] {NONE, 0, 0};
        int best = 0;
        for (int now = 8; now >= 0; now--) if (weights[now] >= weights[best]) best = now;
        return new int[] {best, weights[best], all - weights[best]};
    }

    private int strangeOf(int set, int tongue) {
        int many = 0;
        for (int place = 0; place < length(set) && isRebuilt(kind(set)); place++) {
            int told = lawOf(tongue, old(set, place), place == 0)[0];
            if (told != NONE && told != at(set, tongue, place)) many++;
        }
        return many;
    }

    private boolean isBorrowed(int set, int tongue) {
        int many = strangeOf(set, tongue);
        return many > 1 || many == length(set);
    }

    private static boolean could(int kind, int what) {
        return switch (what) {
            case 0 -> kind == 0 || kind == 4;
            case 1 -> kind == 0 || kind == 1 || kind == 4;
            case 2 -> kind == 4;
            default -> kind == 1;
        };
    }

    private List<Integer> sortsOf(int set) {
        List<Integer> sorts = new ArrayList<>();
        for (int kind = 0; kind < 5; kind++) {
            boolean fits = true;
            for (Seen one : seen) fits &= one.set != set || could(kind, one.what) == one.could;
            if (fits) sorts.add(kind);
        }
        return sorts;
    }

    private int askOf(int set) {
        List<Integer> sorts = sortsOf(set);
        int best = NONE;
        int fewest = 99;
        for (int what = 0; what < 4 && !sorts.isEmpty(); what++) {
            int yes = 0;
            for (int kind : sorts) if (could(kind, what)) yes++;
            int worst = Math.max(yes, sorts.size() - yes);
            if (worst < fewest) {
                fewest = worst;
                best = what;
            }
        }
        return best;
    }

    int set(int set, int what) {
        if (noSet(set)) return UNKNOWN;
        int sum = 0;
        switch (what) {
            case 0: return kind(set);
            case 1: return length(set);
            case 2: return isRebuilt(kind(set)) ? changes(set) : NONE;
            case 3:
                for (int tongue = 0; tongue < tongues(); tongue++) sum += strangeOf(set, tongue);
                return sum;
            case 4:
                for (int tongue = 0; tongue < tongues(); tongue++) if (isBorrowed(set, tongue)) sum += 1 << tongue;
                return sum;
            case 5:
                for (int kind : sortsOf(set)) sum += 1 << kind;
                return sum;
            case 6: return askOf(set);
            default: return OUTSIDE;
        }
    }

    int as(int set, int kind) {
        if (noSet(set)) return UNKNOWN;
        if (kind < 0 || kind > 4) return OUTSIDE;
        String all = new String[] {"0", "01", "012", "03", "04"}[kind(set)];
        return all.indexOf('0' + kind) >= 0 ? set : NONE;
    }

    int sound(int set, int node, int place) {
        if (noSet(set) || node < 0 || node >= nodes() || place < 0 || place >= length(set)) return UNKNOWN;
        if (node < tongues()) return at(set, node, place);
        return isRebuilt(kind(set)) ? SOUNDS.indexOf(column(set, place).charAt(node)) : NONE;
    }

    int law(int tongue, int sound, int ahead, int what) {
        if (noTongue(tongue) || sound < 0 || sound > 8) return UNKNOWN;
        if (ahead != 0 && ahead != 1 || what < 0 || what > 2) return OUTSIDE;
        return lawOf(tongue, sound, ahead == 1)[what];
    }

    int strange(int set, int tongue) {
        if (noSet(set) || noTongue(tongue)) return UNKNOWN;
        return isRebuilt(kind(set)) ? strangeOf(set, tongue) : STATE;
    }

    int say(int set, int tongue, int place) {
        if (noSet(set) || noTongue(tongue) || place < 0 || place >= length(set)) return UNKNOWN;
        if (!isRebuilt(kind(set))) return STATE;
        int old = old(set, place);
        int told = lawOf(tongue, old, place == 0)[0];
        return told < 0 ? old : told;
    }

    int line(int one, int first, int other, int second) {
        if (noSet(one) || noTongue(first) || noSet(other) || noTongue(second)) return UNKNOWN;
        return lined(words(one)[first].replace(".", ""), words(other)[second].replace(".", ""));
    }

    private static int lined(String one, String other) {
        if (one.isEmpty() || other.isEmpty()) return 3 * (one.length() + other.length());
        int both = costOf(SOUNDS.indexOf(one.charAt(0)), SOUNDS.indexOf(other.charAt(0)));
        int least = both + lined(one.substring(1), other.substring(1));
        least = Math.min(least, 3 + lined(one.substring(1), other));
        return Math.min(least, 3 + lined(one, other.substring(1)));
    }

    int cost(int one, int other) {
        if (one < 0 || one > 8 || other < 0 || other > 8) return UNKNOWN;
        return costOf(one, other);
    }

    private void write(int set, String[] words) {
        sets.set(set, sets.get(set).charAt(0) + String.join("/", words));
    }

    int put(int set, int tongue, int place, int sound) {
        if (noSet(set) || noTongue(tongue) || place < 0 || place >= length(set)) return UNKNOWN;
        if (sound < 0 || sound > 8) return OUTSIDE;
        String[] words = words(set);
        StringBuilder word = new StringBuilder(words[tongue]);
        word.setCharAt(place, SOUNDS.charAt(sound));
        if (word.toString().replace(".", "").isEmpty()) return STATE;
        int before = at(set, tongue, place);
        words[tongue] = word.toString();
        write(set, words);
        return before;
    }

    int copy(int set) {
        if (noSet(set)) return UNKNOWN;
        if (sets.size() == 6) return FULL;
        sets.add(sets.get(set));
        return sets.size() - 1;
    }

    int take(int set) {
        if (noSet(set)) return UNKNOWN;
        if (sets.size() == 1) return STATE;
        sets.remove(set);
        List<Seen> left = new ArrayList<>();
        for (Seen one : seen) {
            int now = one.set == set ? NOWHERE : one.set > set ? one.set - 1 : one.set;
            left.add(new Seen(now, one.what, one.could));
        }
        seen = left;
        return sets.size();
    }

    int change(int set, int kind) {
        if (noSet(set)) return UNKNOWN;
        if (kind < 0 || kind > 4) return OUTSIDE;
        int before = kind(set);
        sets.set(set, KINDS.charAt(kind) + sets.get(set).substring(1));
        return before;
    }

    int swap(int one, int other) {
        if (noTongue(one) || noTongue(other) || one == other) return UNKNOWN;
        for (int set = 0; set < sets.size(); set++) {
            String[] words = words(set);
            String word = words[one];
            words[one] = words[other];
            words[other] = word;
            write(set, words);
        }
        return count(3);
    }

    int see(int set, int what, boolean could) {
        if (noSet(set)) return UNKNOWN;
        if (what < 0 || what > 3) return OUTSIDE;
        if (seen.size() == 6) return FULL;
        seen.add(new Seen(set, what, could));
        return seen.size();
    }

    int forget() {
        int many = seen.size();
        seen.clear();
        return many;
    }

    int drawn(int times, int seed, int what) {
        if (times < 1 || times > 40 || seed < 0 || what < 0 || what > 2) return OUTSIDE;
        long now = seed;
        int[] told = new int[3];
        for (int time = 0; time < times; time++) {
            String leaves = "";
            for (int tongue = 0; tongue < 4; tongue++) {
                now = (now * 1103515245L + 12345L) & 0x7fffffffL;
                leaves += SOUNDS.charAt((int) ((now >> 16) % 9));
            }
            String rebuilt = rebuild(leaves);
            told[0] += Integer.parseInt(rebuilt.substring(7));
            if (leaves.indexOf(rebuilt.charAt(6)) < 0) told[1]++;
        }
        told[2] = (int) now;
        return told[what];
    }

    int image() {
        if (sets.isEmpty()) return STATE;
        keptSets = new ArrayList<>(sets);
        keptSeen = new ArrayList<>(seen);
        return sets.size();
    }

    int restore() {
        if (keptSets == null) return STATE;
        sets = new ArrayList<>(keptSets);
        seen = new ArrayList<>(keptSeen);
        return sets.size();
    }

    int count(int what) {
        int sum = 0;
        switch (what) {
            case 0: return sets.size();
            case 1: return tongues();
            case 2: return nodes();
            case 3:
                for (int set = 0; set < sets.size(); set++) if (isRebuilt(kind(set))) sum += changes(set);
                return sum;
            case 4:
            case 5:
                for (int law = 0; law < tongues() * 18; law++) {
                    int[] told = lawOf(law / 18, law / 2 % 9, law % 2 == 1);
                    sum += what == 5 ? told[2] : told[0] == NONE ? 0 : 1;
                }
                return sum;
            case 6:
                for (int set = 0; set < sets.size(); set++) {
                    for (int tongue = 0; tongue < tongues(); tongue++) if (isBorrowed(set, tongue)) sum++;
                }
                return sum;
            case 7: return seen.size();
            case 8: return page.length();
            case 9: return readings;
            default: return OUTSIDE;
        }
    }

    long digest() {
        long h = 1459;
        for (int set = 0; set < sets.size(); set++) {
            for (int what = 0; what < 7; what++) h = 31 * h + set(set, what);
            for (int place = 0; place < length(set); place++) {
                for (int node = 0; node < nodes(); node++) h = 31 * h + sound(set, node, place);
            }
        }
        for (int law = 0; law < tongues() * 18; law++) {
            for (int number : lawOf(law / 18, law / 2 % 9, law % 2 == 1)) h = 31 * h + number;
        }
        for (char letter : page.toCharArray()) h = 31 * h + letter;
        for (int what = 0; what < 10; what++) h = 31 * h + count(what);
        return h;
    }
}
