import java.util.ArrayList;
import java.util.Arrays;
import java.util.Collections;
import java.util.HashMap;
import java.util.List;
import java.util.Map;
import java.util.Set;
import java.util.TreeMap;
import java.util.TreeSet;

/**
 * The document told a second time, as slowly and as plainly as its words go, with lists and maps:
 * ModelTest compares Letterforge with it.
 */
final class Model {
    private static final int NONE = -1;

    private static final class Change {
        int part, from, to;
        boolean isFinal;
    }

    private static final class Design {
        boolean pairs;
        int base;
        final TreeMap<Integer, Integer> signs = new TreeMap<>();
        final Set<Integer> unmarked = new TreeSet<>();
        final List<Integer> keys = new ArrayList<>();
    }

    private final List<Integer> draft = new ArrayList<>();
    private final List<List<Integer>> words = new ArrayList<>();
    private final List<Integer> weights = new ArrayList<>();
    private final List<List<Change>> dialects = List.of(new ArrayList<>(), new ArrayList<>(), new ArrayList<>());
    private final List<Design> designs = new ArrayList<>();
    private final String[] shapes = new String[50];
    private final int[][] groups = new int[4][5];

    Model() {
        for (int s = 0; s < 50; s++) {
            shapes[s] = "" + (s / 16 + 1) + (s / 4 % 4 + 1) + (s % 4 + 1);
        }
    }

    private static void index(boolean good) {
        if (!good) {
            throw new IndexOutOfBoundsException();
        }
    }

    private static void argument(boolean good) {
        if (!good) {
            throw new IllegalArgumentException();
        }
    }

    private static void state(boolean good) {
        if (!good) {
            throw new IllegalStateException();
        }
    }

    private static boolean in(int value, int from, int to) {
        return from <= value && value <= to;
    }

    private Design at(int design) {
        index(in(design, 0, designs.size() - 1));
        return designs.get(design);
    }

    private void checkWord(int word) {
        index(in(word, 0, words.size() - 1));
    }

    // ---- WORDS

    int syllable(int code) {
        argument(in(code, 0, 971));
        state(draft.size() < 4);
        draft.add(code);
        return draft.size();
    }

    int word(int weight) {
        argument(in(weight, 1, 999));
        state(!draft.isEmpty() && words.size() < 20);
        words.add(new ArrayList<>(draft));
        weights.add(weight);
        draft.clear();
        return words.size() - 1;
    }

    int change(int dialect, int part, int from, int to, boolean isFinal) {
        index(in(dialect, 0, 2) && in(part, 0, 3));
        int most = part == 1 ? 3 : part == 3 ? 2 : 8;
        argument(in(from, 0, most) && in(to, 0, most));
        state(dialects.get(dialect).size() < 6);
        Change change = new Change();
        change.part = part;
        change.from = from;
        change.to = to;
        change.isFinal = isFinal;
        dialects.get(dialect).add(change);
        return dialects.get(dialect).size();
    }

    /** Onset, vowel, coda and tone. */
    private static int[] decode(int code) {
        return new int[] {code / 3 / 9 / 4, code / 3 / 9 % 4, code / 3 % 9, code % 3};
    }

    private static int encode(int[] parts) {
        return 108 * parts[0] + 27 * parts[1] + 3 * parts[2] + parts[3];
    }

    private List<Integer> say(int dialect, List<Integer> word) {
        List<Integer> row = new ArrayList<>(word);
        if (dialect == NONE) {
            return row;
        }
        for (Change change : dialects.get(dialect)) {
            for (int i = 0; i < row.size(); i++) {
                int[] parts = decode(row.get(i));
                if (parts[change.part] == change.from && (!change.isFinal || i == row.size() - 1)) {
                    parts[change.part] = change.to;
                    row.set(i, encode(parts));
                }
            }
        }
        return row;
    }

    private static int get(List<Integer> list, int place) {
        return place < list.size() ? list.get(place) : NONE;
    }

    int spoken(int dialect, int word, int place) {
        index(in(dialect, -1, 2));
        checkWord(word);
        index(place >= 0);
        return get(say(dialect, words.get(word)), place);
    }

    // ---- DESIGNS

    int design(int kind, int base) {
        argument(in(kind, 0, 1) && in(base, -1, 2));
        state(designs.size() < 5);
        Design design = new Design();
        design.pairs = kind == 1;
        design.base = base;
        for (int u = 0; u < 47; u++) {
            if (design.pairs || u < 12 || u > 43) {
                design.signs.put(u, u);
            }
        }
        for (int k = 0; k < 50; k++) {
            design.keys.add(k);
        }
        designs.add(design);
        return designs.size() - 1;
    }

    int assign(int design, int unit, int sign, boolean mayShare) {
        Design d = at(design);
        index(d.signs.containsKey(unit));
        argument(in(sign, 0, 49));
        if (!mayShare) {
            Map<Integer, Integer> others = new TreeMap<>(d.signs);
            others.remove(unit);
            state(!others.containsValue(sign));
        }
        return d.signs.put(unit, sign);
    }

    boolean mark(int design, int tone, boolean is) {
        Design d = at(design);
        index(in(tone, 0, 2));
        return !(is ? d.unmarked.remove(tone) : !d.unmarked.add(tone));
    }

    private static List<Integer> spellSyllable(Design d, int code) {
        int[] parts = decode(code);
        List<Integer> units = new ArrayList<>();
        if (d.pairs) {
            units.add(4 * parts[0] + parts[1]);
        } else {
            if (parts[0] < 8) {
                units.add(parts[0]);
            }
            units.add(8 + parts[1]);
        }
        if (!d.unmarked.contains(parts[3])) {
            units.add(44 + parts[3]);
        }
        if (parts[2] < 8) {
            units.add(d.pairs ? 36 + parts[2] : parts[2]);
        }
        List<Integer> signs = new ArrayList<>();
        for (int unit : units) {
            signs.add(d.signs.get(unit));
        }
        return signs;
    }

    private List<Integer> spell(Design d, int base, int word) {
        List<Integer> signs = new ArrayList<>();
        for (int code : say(base, words.get(word))) {
            signs.addAll(spellSyllable(d, code));
        }
        return signs;
    }

    private List<Integer> spell(Design d, int word) {
        return spell(d, d.base, word);
    }

    int spelled(int design, int word, int place) {
        Design d = at(design);
        checkWord(word);
        index(place >= 0);
        return get(spell(d, word), place);
    }

    // ---- doubts

    private Map<List<Integer>, List<Integer>> bySpelling(Design d) {
        Map<List<Integer>, List<Integer>> all = new HashMap<>();
        for (int w = 0; w < words.size(); w++) {
            all.computeIfAbsent(spell(d, w), any -> new ArrayList<>()).add(weights.get(w));
        }
        return all;
    }

    int doubts(int design) {
        int pairs = 0;
        for (List<Integer> alike : bySpelling(at(design)).values()) {
            pairs += alike.size() * (alike.size() - 1) / 2;
        }
        return pairs;
    }

    private int loadOf(Design d) {
        int load = 0;
        for (List<Integer> alike : bySpelling(d).values()) {
            load += alike.stream().mapToInt(w -> w).sum() - Collections.max(alike);
        }
        return load;
    }

    int load(int design) {
        return loadOf(at(design));
    }

    int loadIf(int design, int tone) {
        Design d = at(design);
        index(in(tone, 0, 2));
        boolean was = mark(design, tone, d.unmarked.contains(tone));
        int load = loadOf(d);
        mark(design, tone, was);
        return load;
    }

    long readings(int design, int word) {
        Design d = at(design);
        checkWord(word);
        Map<List<Integer>, Integer> syllables = new HashMap<>();
        for (int code = 0; code < 972; code++) {
            syllables.merge(spellSyllable(d, code), 1, Integer::sum);
        }
        return countReadings(syllables, spell(d, word), 4);
    }

    private static long countReadings(Map<List<Integer>, Integer> syllables, List<Integer> rest, int most) {
        long sum = 0;
        for (int n = 1; n <= rest.size() && most > 0; n++) {
            int ways = syllables.getOrDefault(rest.subList(0, n), 0);
            if (ways > 0) {
                boolean atEnd = n == rest.size();
                sum += ways * (atEnd ? 1 : countReadings(syllables, rest.subList(n, rest.size()), most - 1));
            }
        }
        return sum;
    }

    private int fitOf(Design d, int dialect) {
        int sum = 0;
        for (int w = 0; w < words.size(); w++) {
            sum += spell(d, w).equals(spell(d, dialect, w)) ? weights.get(w) : 0;
        }
        return sum;
    }

    int fit(int design, int dialect) {
        Design d = at(design);
        index(in(dialect, 0, 2));
        return fitOf(d, dialect);
    }

    // ---- shapes

    int shape(int sign, int shape) {
        index(in(sign, 0, 49));
        argument(String.valueOf(shape).matches("[1-4]{1,4}"));
        int before = Integer.parseInt(shapes[sign]);
        shapes[sign] = String.valueOf(shape);
        return before;
    }

    private static <T> int way(List<T> from, List<T> to) {
        int[][] least = new int[from.size() + 1][to.size() + 1];
        for (int i = from.size(); i >= 0; i--) {
            for (int j = to.size(); j >= 0; j--) {
                if (i == from.size()) {
                    least[i][j] = to.size() - j;
                } else if (j == to.size()) {
                    least[i][j] = from.size() - i;
                } else if (from.get(i).equals(to.get(j))) {
                    least[i][j] = least[i + 1][j + 1];
                } else {
                    least[i][j] = 1 + Math.min(least[i + 1][j + 1], Math.min(least[i + 1][j], least[i][j + 1]));
                }
            }
        }
        return least[0][0];
    }

    private int far(int sign, int other) {
        return way(Arrays.asList(shapes[sign].split("")), Arrays.asList(shapes[other].split("")));
    }

    int apart(int sign, int other) {
        index(in(sign, 0, 49) && in(other, 0, 49));
        return far(sign, other);
    }

    int clear(int design) {
        Set<Integer> signs = new TreeSet<>(at(design).signs.values());
        int least = 99;
        for (int s : signs) {
            for (int t : signs) {
                if (s < t) {
                    least = Math.min(least, far(s, t));
                }
            }
        }
        return least == 99 ? NONE : least;
    }

    int errors(int design, int far) {
        Design d = at(design);
        argument(in(far, 0, 4));
        Set<Integer> wrong = new TreeSet<>();
        for (int s : d.signs.values()) {
            for (int t : d.signs.values()) {
                if (s != t && far(s, t) <= far) {
                    wrong.add(s);
                }
            }
        }
        int sum = 0;
        for (int w = 0; w < words.size(); w++) {
            for (int s : spell(d, w)) {
                sum += wrong.contains(s) ? weights.get(w) : 0;
            }
        }
        return sum;
    }

    // ---- primers

    private List<Set<Integer>> signsOfWords(Design d) {
        List<Set<Integer>> all = new ArrayList<>();
        for (int w = 0; w < words.size(); w++) {
            all.add(new TreeSet<>(spell(d, w)));
        }
        return all;
    }

    private static Set<Integer> union(List<Set<Integer>> sets) {
        Set<Integer> all = new TreeSet<>();
        sets.forEach(all::addAll);
        return all;
    }

    private List<Integer> quickPrimer(Design d) {
        List<Set<Integer>> sets = signsOfWords(d);
        Set<Integer> rest = union(sets);
        List<Integer> order = new ArrayList<>();
        while (!rest.isEmpty()) {
            int best = NONE;
            long bestWorth = NONE;
            for (int s : rest) {
                long read = 0;
                long having = 0;
                for (int w = 0; w < words.size(); w++) {
                    boolean wasRead = order.containsAll(sets.get(w));
                    List<Integer> then = new ArrayList<>(order);
                    then.add(s);
                    read += !wasRead && then.containsAll(sets.get(w)) ? weights.get(w) : 0;
                    having += !wasRead && sets.get(w).contains(s) ? weights.get(w) : 0;
                }
                if (read * 1000000 + having > bestWorth) {
                    bestWorth = read * 1000000 + having;
                    best = s;
                }
            }
            order.add(best);
            rest.remove(best);
        }
        return order;
    }

    int primer(int design, int place) {
        Design d = at(design);
        index(place >= 0);
        return get(quickPrimer(d), place);
    }

    int cost(int design) {
        Design d = at(design);
        List<Integer> order = quickPrimer(d);
        int sum = 0;
        for (int w = 0; w < words.size(); w++) {
            sum += weights.get(w) * spell(d, w).stream().mapToInt(s -> order.indexOf(s) + 1).max().getAsInt();
        }
        return sum;
    }

    int leastCost(int design) {
        List<Set<Integer>> sets = signsOfWords(at(design));
        Set<Integer> inUse = union(sets);
        state(inUse.size() <= 10);
        return leastBehind(new TreeSet<>(), inUse, sets, new HashMap<>());
    }

    private int leastBehind(Set<Integer> known, Set<Integer> inUse, List<Set<Integer>> sets,
            Map<Set<Integer>, Integer> told) {
        if (known.size() == inUse.size()) {
            return 0;
        }
        Integer before = told.get(known);
        if (before != null) {
            return before;
        }
        int least = Integer.MAX_VALUE;
        for (int s : inUse) {
            if (!known.contains(s)) {
                Set<Integer> then = new TreeSet<>(known);
                then.add(s);
                int cost = leastBehind(then, inUse, sets, told);
                for (int w = 0; w < sets.size(); w++) {
                    if (then.containsAll(sets.get(w)) && !known.containsAll(sets.get(w))) {
                        cost += weights.get(w) * then.size();
                    }
                }
                least = Math.min(least, cost);
            }
        }
        told.put(known, least);
        return least;
    }

    // ---- keys

    int key(int design, int sign, int key) {
        Design d = at(design);
        index(in(sign, 0, 49) && in(key, 0, 49));
        int before = d.keys.indexOf(sign);
        Collections.swap(d.keys, before, key);
        return before;
    }

    private int travelOf(Design d) {
        int sum = 0;
        for (int w = 0; w < words.size(); w++) {
            List<Integer> signs = spell(d, w);
            for (int i = 0; i + 1 < signs.size(); i++) {
                sum += weights.get(w) * Math.abs(d.keys.indexOf(signs.get(i)) - d.keys.indexOf(signs.get(i + 1)));
            }
        }
        return sum;
    }

    int travel(int design) {
        return travelOf(at(design));
    }

    int exchange(int design) {
        Design d = at(design);
        Set<Integer> inUse = union(signsOfWords(d));
        int least = travelOf(d);
        int answer = NONE;
        for (int s : inUse) {
            for (int t : inUse) {
                if (s < t) {
                    int i = d.keys.indexOf(s);
                    int j = d.keys.indexOf(t);
                    Collections.swap(d.keys, i, j);
                    int travel = travelOf(d);
                    Collections.swap(d.keys, i, j);
                    if (travel < least) {
                        least = travel;
                        answer = 100 * s + t;
                    }
                }
            }
        }
        return answer;
    }

    // ---- votes

    int group(int group, int people, int worths, int dialect) {
        index(in(group, 0, 3) && in(dialect, 0, 2));
        argument(in(people, 0, 999) && in(worths, 0, 999));
        int before = groups[group][0];
        groups[group] = new int[] {people, worths / 100, worths / 10 % 10, worths % 10, dialect};
        return before;
    }

    private int scoreOf(int group, Design d) {
        int strokes = 0;
        int all = 0;
        for (int w = 0; w < words.size(); w++) {
            all += weights.get(w);
            for (int s : spell(d, w)) {
                strokes += weights.get(w) * shapes[s].length();
            }
        }
        int[] g = groups[group];
        return loadOf(d) * g[1] + strokes / 100 * g[2] + (all - fitOf(d, g[4])) * g[3];
    }

    int score(int group, int design) {
        index(in(group, 0, 3));
        return scoreOf(group, at(design));
    }

    private Map<Integer, Integer> poll(Set<Integer> left, int[][] scores) {
        Map<Integer, Integer> votes = new TreeMap<>();
        for (int d : left) {
            votes.put(d, 0);
        }
        for (int g = 0; g < 4; g++) {
            int least = Integer.MAX_VALUE;
            for (int d : left) {
                least = Math.min(least, scores[g][d]);
            }
            for (int d : left) {
                if (scores[g][d] == least) {
                    votes.merge(d, groups[g][0], Integer::sum);
                    break;
                }
            }
        }
        return votes;
    }

    private int[][] allScores() {
        int[][] scores = new int[4][designs.size()];
        for (int g = 0; g < 4; g++) {
            for (int d = 0; d < designs.size(); d++) {
                scores[g][d] = scoreOf(g, designs.get(d));
            }
        }
        return scores;
    }

    private Set<Integer> allDesigns() {
        Set<Integer> all = new TreeSet<>();
        for (int d = 0; d < designs.size(); d++) {
            all.add(d);
        }
        return all;
    }

    int votes(int design) {
        at(design);
        return poll(allDesigns(), allScores()).get(design);
    }

    int elected() {
        state(!designs.isEmpty());
        int people = groups[0][0] + groups[1][0] + groups[2][0] + groups[3][0];
        if (people == 0) {
            return NONE;
        }
        Set<Integer> left = allDesigns();
        int[][] scores = allScores();
        while (true) {
            Map<Integer, Integer> votes = poll(left, scores);
            int fewest = Collections.min(votes.values());
            int out = NONE;
            for (int d : left) {
                if (votes.get(d) > people - votes.get(d)) {
                    return d;
                }
                if (votes.get(d) == fewest) {
                    out = d;
                }
            }
            left.remove(out);
        }
    }

    // ---- reforms

    int reform(int from, int to) {
        Design d = at(from);
        Design e = at(to);
        int sum = 0;
        for (int w = 0; w < words.size(); w++) {
            sum += weights.get(w) * way(spell(d, w), spell(e, w));
        }
        return sum;
    }

    int lost(int from, int to) {
        Design d = at(from);
        Design e = at(to);
        Set<Integer> losing = new TreeSet<>();
        for (int w = 0; w < words.size(); w++) {
            for (int v = 0; v < w; v++) {
                if (spell(d, w).equals(spell(d, v)) && !spell(e, w).equals(spell(e, v))) {
                    losing.add(w);
                    losing.add(v);
                }
            }
        }
        return losing.stream().mapToInt(weights::get).sum();
    }
}
