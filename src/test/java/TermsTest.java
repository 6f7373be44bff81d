import java.util.ArrayList;
import java.util.List;

/**
 * Each sentence of the terms that names a boundary case, by examples that were worked out by hand, and the limit of
 * 512 calls. The sentence stands above its test.
 */
public final class TermsTest extends Bench {
    private TermsTest() {
        super("TermsTest");
    }

    public static void main(String[] args) {
        new TermsTest().test();
    }

    private void test() {
        allCalls();
        lastCallsThatChange();
        draftIsNoWord();
        codes();
        wordsOfTheSameRow();
        values();
        none();
        orderOfChanges();
        finalOfRow();
        changesTakeNoTurn();
        signsAtFirst();
        spellingsByKind();
        baseOrNone();
        signsOfDesign();
        signsInUse();
        doubtsOfAllWords();
        loadOfSpellings();
        readingsOfFourSyllables();
        readingsWhateverTheBase();
        fitToDialects();
        shapesAtFirst();
        shapesApart();
        errorsByPlace();
        errorsByOtherSign();
        primerOfSeveral();
        costByPlace();
        leastCostOfAnyOrder();
        keysAtFirst();
        travelFromEdgeToEdge();
        exchangeOfSeveral();
        groupsAtFirst();
        strokesRoundedDown();
        leastScoreOfSeveral();
        moreThanHalf();
        fewestPerhapsNone();
        fewestOfSeveral();
        amongThoseLeft();
        reformFromEdgeToEdge();
        lostByBoth();
        check.end();
    }

    // ---- what it is

    // "An object is used for at most 512 calls after it has been made": the last ones answer as the first ones do.
    private void allCalls() {
        begin("512 calls");
        List<Step> steps = new ArrayList<>();
        for (int word = 0; word < 20; word++) {
            for (int syllable = 0; syllable < 4; syllable++) {
                steps.add(forge -> forge.syllable(0));
            }
            steps.add(forge -> forge.word(999));
        }
        for (int design = 0; design < 5; design++) {
            steps.add(forge -> forge.design(LETTERS, NONE));
        }
        steps.add(forge -> forge.group(0, 999, 999, 0));
        int all = 20 * 999;
        // Each word is four times 0 8 44 0, where of two signs 0 the first one can just be a coda.
        due512("spoken", 0, steps, forge -> forge.spoken(2, 19, 3));
        due512("spelled", 44, steps, forge -> forge.spelled(4, 19, 14));
        due512("doubts", 190, steps, forge -> forge.doubts(4));
        due512("load", 19 * 999, steps, forge -> forge.load(4));
        due512("loadIf", 19 * 999, steps, forge -> forge.loadIf(4, 0));
        due512("readings", 1, steps, forge -> forge.readings(4, 19));
        due512("readingsAnew", 1, steps, forge -> forge.readingsAnew(4, 19));
        due512("fit", all, steps, forge -> forge.fit(4, 2));
        due512("apart", 2, steps, forge -> forge.apart(0, 49));
        due512("clear", 1, steps, forge -> forge.clear(4));
        due512("errors", 16 * all, steps, forge -> forge.errors(4, 4));
        due512("primer", 44, steps, forge -> forge.primer(4, 2));
        due512("cost", 3 * all, steps, forge -> forge.cost(4));
        due512("leastCost", 3 * all, steps, forge -> forge.leastCost(4));
        due512("travel", (4 * (8 + 36 + 44)) * all, steps, forge -> forge.travel(4));
        due512("exchange", NONE, steps, forge -> forge.exchange(4));
        due512("score", 9 * (19 * 999 + 48 * all / 100), steps, forge -> forge.score(0, 4));
        due512("votes", 999, steps, forge -> forge.votes(0));
        due512("elected", 0, steps, forge -> forge.elected());
        due512("reform", 0, steps, forge -> forge.reform(0, 4));
        due512("lost", 0, steps, forge -> forge.lost(0, 4));
        due512("a refused word", STATE, steps, forge -> forge.word(1));
        due512("a refused design", STATE, steps, forge -> forge.design(LETTERS, NONE));
        due512("shape", 111, steps, forge -> forge.shape(0, 111));
        due512("key", 49, steps, forge -> forge.key(4, 49, 49));
        due512("mark", true, steps, forge -> forge.mark(4, 2, true));
        due512("assign", 46, steps, forge -> forge.assign(4, 46, 46, false));
        due512("group", 999, steps, forge -> forge.group(0, 999, 999, 0));
    }

    private void due512(String what, Object want, List<Step> steps, Step last) {
        x = new Letterforge();
        for (Step step : steps) {
            step.on(x);
        }
        for (int call = steps.size(); call < 512; call++) {
            due(what, want, () -> last.on(x));
        }
    }

    // The same of the calls that change something: all of it is told in the last ones of 512.
    private void lastCallsThatChange() {
        begin("calls that change something, at last");
        for (int call = 0; call < 400; call++) {
            due("nothing is there", STATE, () -> x.elected());
        }
        for (int word = 0; word < 20; word++) {
            addWord(999, 0, 0, 0, 971);
        }
        addDesigns(5);
        x.mark(4, 0, false);
        x.change(0, VOWEL, 3, 2, true);
        x.key(4, 0, 49);
        x.shape(0, 4);
        x.assign(4, 46, 0, true);
        due("call 511", 0, () -> x.spelled(4, 19, 10));
        due("call 512", code(8, 2, 8, 2), () -> x.spoken(0, 19, 3));
    }

    // "Sums over WORDS are over all WORDS that there are.": the draft is none
    private void draftIsNoWord() {
        begin("the draft is no word");
        x.design(LETTERS, NONE);
        addWord(7, vowel(0));
        x.syllable(vowel(0));
        due("doubts", 0, () -> x.doubts(0));
        due("load", 0, () -> x.load(0));
        due("errors", 14, () -> x.errors(0, 1));
        due("travel", 7 * 36, () -> x.travel(0));
        due("fit", 7, () -> x.fit(0, 0));
        x.syllable(0);
        due("signs in use", NONE, () -> x.primer(0, 2));
        due("cost", 14, () -> x.cost(0));
        due("the word of it", 1, () -> x.word(1));
        due("signs in use then", 0, () -> x.primer(0, 2));
        due("cost then", 14 + 3, () -> x.cost(0));
    }

    // ---- words

    // "Its code, 0 to 971, is 108 times its onset, 27 times its VOWEL, 3 times its coda, and its TONE, together,
    // none being 8."
    private void codes() {
        int code = 0;
        for (int onset = 0; onset <= 8; onset++) {
            for (int vowel = 0; vowel <= 3; vowel++) {
                for (int coda = 0; coda <= 8; coda++) {
                    for (int tone = 0; tone <= 2; tone++) {
                        dueCode(code, onset, vowel, coda, tone);
                        code++;
                    }
                }
            }
        }
    }

    private void dueCode(int code, int onset, int vowel, int coda, int tone) {
        begin("code " + code);
        x.design(LETTERS, NONE);
        x.design(PAIRS, NONE);
        addWord(1, code, 971);
        List<Integer> letters = new ArrayList<>();
        if (onset != 8) {
            letters.add(onset);
        }
        letters.add(8 + vowel);
        letters.add(44 + tone);
        if (coda != 8) {
            letters.add(coda);
        }
        letters.add(11);
        letters.add(46);
        List<Integer> pairs = new ArrayList<>();
        pairs.add(4 * onset + vowel);
        pairs.add(44 + tone);
        if (coda != 8) {
            pairs.add(36 + coda);
        }
        pairs.add(35);
        pairs.add(46);
        dueSpelling(0, 0, letters.stream().mapToInt(sign -> sign).toArray());
        dueSpelling(1, 0, pairs.stream().mapToInt(sign -> sign).toArray());
        due("spoken", code, () -> x.spoken(2, 0, 0));
    }

    // "WORDS are numbered from 0, at most 20; two WORDS may have the same row."
    private void wordsOfTheSameRow() {
        begin("words of the same row");
        x.design(PAIRS, NONE);
        for (int word = 0; word < 20; word++) {
            int w = word;
            due("number", w, () -> addWord(w + 1, 100, 200));
            due("its row", 200, () -> x.spoken(NONE, w, 1));
            due("pairs in doubt", w * (w + 1) / 2, () -> x.doubts(0));
            due("all less the greatest", w * (w + 1) / 2, () -> x.load(0));
        }
    }

    // "it has one value of that, and another one (8, which is none, is a value of ONSET and CODA)"
    private void values() {
        int[] most = {8, 3, 8, 2};
        for (int part = ONSET; part <= TONE; part++) {
            for (int from = 0; from <= most[part]; from++) {
                for (int to = 0; to <= most[part]; to++) {
                    dueChanged(part, from, to, from == 0 ? 1 : from - 1);
                }
            }
        }
    }

    private void dueChanged(int part, int from, int to, int other) {
        begin("change of part " + part + " from " + from + " to " + to);
        int[] parts = {6, 2, 7, 1};
        parts[part] = from;
        int first = code(parts[0], parts[1], parts[2], parts[3]);
        parts[part] = other;
        int second = code(parts[0], parts[1], parts[2], parts[3]);
        parts[part] = to;
        int changed = code(parts[0], parts[1], parts[2], parts[3]);
        addWord(1, first, second, first);
        x.change(0, part, from, to, false);
        x.change(1, part, from, to, true);
        addWord(1, first, second, first);
        for (int word = 0; word < 2; word++) {
            int w = word;
            due("the first one", changed, () -> x.spoken(0, w, 0));
            due("another value", second, () -> x.spoken(0, w, 1));
            due("the last one", changed, () -> x.spoken(0, w, 2));
            due("final, the first one", first, () -> x.spoken(1, w, 0));
            due("final, the last one", changed, () -> x.spoken(1, w, 2));
            due("another dialect", first, () -> x.spoken(2, w, 2));
            due("as it is", first, () -> x.spoken(NONE, w, 2));
        }
    }

    // "an onset, which is a CONSONANT or none, .. a coda, which is a CONSONANT or none": none and consonant 7
    private void none() {
        begin("none");
        x.design(LETTERS, 0);
        x.design(PAIRS, 0);
        addWord(1, code(8, 0, 8, 0));
        dueSpelling(0, 0, 8, 44);
        dueSpelling(1, 0, 32, 44);
        x.change(0, ONSET, 8, 7, false);
        dueSpelling(0, 0, 7, 8, 44);
        dueSpelling(1, 0, 28, 44);
        x.change(0, CODA, 8, 7, false);
        dueSpelling(0, 0, 7, 8, 44, 7);
        dueSpelling(1, 0, 28, 44, 43);
        x.change(0, ONSET, 7, 8, false);
        dueSpelling(0, 0, 8, 44, 7);
        dueSpelling(1, 0, 32, 44, 43);
        x.change(0, CODA, 7, 8, true);
        dueSpelling(0, 0, 8, 44);
        dueSpelling(1, 0, 32, 44);
    }

    // ---- dialects

    // "its CHANGES are done one behind the other, in the order in which they were told"; "at most 6 CHANGES"
    private void orderOfChanges() {
        begin("order of changes");
        addWord(1, code(0, 0, 8, 0));
        for (int onset = 0; onset < 6; onset++) {
            x.change(0, ONSET, onset, onset + 1, false);
            x.change(1, ONSET, 5 - onset, 6 - onset, false);
        }
        due("forth, all six", code(6, 0, 8, 0), () -> x.spoken(0, 0, 0));
        due("back, just one", code(1, 0, 8, 0), () -> x.spoken(1, 0, 0));
        due("a later word", 1, () -> addWord(1, code(3, 0, 8, 0)));
        due("forth, three", code(6, 0, 8, 0), () -> x.spoken(0, 1, 0));
        due("back, just one", code(4, 0, 8, 0), () -> x.spoken(1, 1, 0));
        due("no changes", code(3, 0, 8, 0), () -> x.spoken(2, 1, 0));
    }

    // "if it is FINAL just the last SYLLABLE of the row"; the last one may be the first one
    private void finalOfRow() {
        for (int length = 1; length <= 4; length++) {
            int last = length - 1;
            begin("final in a row of " + length);
            x.change(0, VOWEL, 0, 1, true);
            int[] row = new int[length];
            for (int place = 0; place < length; place++) {
                row[place] = vowel(0);
            }
            addWord(1, row);
            x.change(1, VOWEL, 0, 2, true);
            x.change(2, VOWEL, 0, 3, false);
            for (int place = 0; place < length; place++) {
                int p = place;
                due("told ahead, at " + p, vowel(p == last ? 1 : 0), () -> x.spoken(0, 0, p));
                due("told later, at " + p, vowel(p == last ? 2 : 0), () -> x.spoken(1, 0, p));
                due("not final, at " + p, vowel(3), () -> x.spoken(2, 0, p));
            }
            due("behind it", NONE, () -> x.spoken(0, 0, last + 1));
        }
    }

    // "a CHANGE gives each SYLLABLE whose PART has its first value the second one": one part, the others stay
    private void changesTakeNoTurn() {
        begin("a change gives its second value once");
        addWord(1, code(1, 1, 1, 1), code(0, 0, 0, 0), code(0, 1, 0, 1));
        x.change(0, ONSET, 0, 1, false);
        x.change(0, ONSET, 1, 0, false);
        x.change(1, CODA, 1, 0, false);
        x.change(1, CODA, 0, 1, true);
        due("1 to 0", code(0, 1, 1, 1), () -> x.spoken(0, 0, 0));
        due("0 to 1 to 0", code(0, 0, 0, 0), () -> x.spoken(0, 0, 1));
        due("codas stay", code(0, 1, 0, 1), () -> x.spoken(0, 0, 2));
        due("coda 1 to 0", code(1, 1, 0, 1), () -> x.spoken(1, 0, 0));
        due("coda 0, not final", code(0, 0, 0, 0), () -> x.spoken(1, 0, 1));
        due("coda 0 to 1, final", code(0, 1, 1, 1), () -> x.spoken(1, 0, 2));
    }

    // ---- designs

    // "At first each unit has the SIGN with its number."; "each TONE is marked in it, as all are at first"
    private void signsAtFirst() {
        for (int kind : new int[] {LETTERS, PAIRS}) {
            begin("at first, kind " + kind);
            addDesigns(4);
            x.design(kind, 2);
            for (int unit : unitsOf(kind)) {
                due("sign of unit " + unit, unit, () -> x.assign(4, unit, unit, false));
            }
            for (int tone = 0; tone < 3; tone++) {
                int t = tone;
                due("mark of tone " + t, true, () -> x.mark(4, t, true));
            }
        }
    }

    // "for each SYLLABLE: by LETTERS .. if it has one ..": the longest and the shortest spelling of 1 and 4 syllables
    private void spellingsByKind() {
        begin("spellings by kind");
        x.design(LETTERS, NONE);
        x.design(PAIRS, NONE);
        addToneless(LETTERS, NONE);
        addToneless(PAIRS, NONE);
        int longest = code(7, 3, 7, 2);
        addWord(1, longest);
        addWord(1, vowel(0));
        addWord(1, longest, longest, longest, longest);
        addWord(1, vowel(0), vowel(0), vowel(0), vowel(0));
        dueSpelling(0, 0, 7, 11, 46, 7);
        dueSpelling(0, 1, 8, 44);
        dueSpelling(0, 2, 7, 11, 46, 7, 7, 11, 46, 7, 7, 11, 46, 7, 7, 11, 46, 7);
        dueSpelling(0, 3, 8, 44, 8, 44, 8, 44, 8, 44);
        dueSpelling(1, 0, 31, 46, 43);
        dueSpelling(1, 1, 32, 44);
        dueSpelling(1, 2, 31, 46, 43, 31, 46, 43, 31, 46, 43, 31, 46, 43);
        dueSpelling(1, 3, 32, 44, 32, 44, 32, 44, 32, 44);
        dueSpelling(2, 0, 7, 11, 7);
        dueSpelling(2, 1, 8);
        dueSpelling(2, 2, 7, 11, 7, 7, 11, 7, 7, 11, 7, 7, 11, 7);
        dueSpelling(2, 3, 8, 8, 8, 8);
        dueSpelling(3, 0, 31, 43);
        dueSpelling(3, 1, 32);
        dueSpelling(3, 2, 31, 43, 31, 43, 31, 43, 31, 43);
        dueSpelling(3, 3, 32, 32, 32, 32);
    }

    // "The spelling of a WORD is that of its row as it is, if the BASE is NONE, otherwise of the row that the BASE
    // speaks."
    private void baseOrNone() {
        begin("base or none");
        for (int base = NONE; base <= 2; base++) {
            addToneless(LETTERS, base);
        }
        addWord(1, vowel(0));
        for (int dialect = 0; dialect <= 2; dialect++) {
            x.change(dialect, VOWEL, 0, dialect + 1, false);
        }
        addWord(1, vowel(0));
        for (int word = 0; word <= 1; word++) {
            dueSpelling(0, word, 8);
            dueSpelling(1, word, 9);
            dueSpelling(2, word, 10);
            dueSpelling(3, word, 11);
        }
    }

    // "The SIGNS of a DESIGN are those that some unit of it has, marks of TONES that are not marked with them"
    private void signsOfDesign() {
        begin("signs of a design");
        addToneless(LETTERS, NONE);
        giveAll(0, LETTERS, 0);
        addWord(10, vowel(0));
        due("one sign", NONE, () -> x.clear(0));
        due("one sign has no other one", 0, () -> x.errors(0, 4));
        x.assign(0, 46, 1, false);
        due("the mark is not marked", 1, () -> x.clear(0));
        due("and near to 0", 10, () -> x.errors(0, 1));
        x.mark(0, 2, true);
        due("marked", 1, () -> x.clear(0));
        due("still near to 0", 10, () -> x.errors(0, 1));
        x.assign(0, 46, 0, true);
        due("one sign again", NONE, () -> x.clear(0));
        due("no other one again", 0, () -> x.errors(0, 1));
        begin("the numbers 12 to 43 are no units of letters");
        addToneless(LETTERS, NONE);
        addToneless(PAIRS, NONE);
        for (int unit : unitsOf(LETTERS)) {
            x.assign(0, unit, unit < 12 ? 0 : 5, true);
        }
        // 0 and 5 are 111 and 122; 12 would have 141, one apart from 0.
        due("two apart", 2, () -> x.clear(0));
        addWord(10, vowel(0));
        due("none is one apart", 0, () -> x.errors(0, 1));
        due("of pairs 32 has near ones", 10, () -> x.errors(1, 1));
    }

    // "the SIGNS in use are those in the spelling of some WORD"
    private void signsInUse() {
        begin("signs in use");
        x.design(LETTERS, 1);
        due("without words", NONE, () -> x.primer(0, 0));
        addWord(1, vowel(0));
        duePrimer(0, 8, 44);
        x.mark(0, 0, false);
        duePrimer(0, 8);
        x.assign(0, 8, 49, false);
        duePrimer(0, 49);
        x.change(1, VOWEL, 0, 3, true);
        duePrimer(0, 11);
        x.change(0, VOWEL, 0, 2, true);
        duePrimer(0, 11);
    }

    // ---- doubts

    // "Two unlike WORDS are in doubt, if they have the same spelling, whether their rows are the same or not."
    private void doubtsOfAllWords() {
        begin("doubts");
        addToneless(LETTERS, NONE);
        addWord(1, code(8, 0, 8, 0));
        due("a word and itself", 0, () -> x.doubts(0));
        addWord(1, code(8, 0, 8, 0));
        due("the same row", 1, () -> x.doubts(0));
        addWord(1, code(8, 0, 8, 2));
        due("another row", 3, () -> x.doubts(0));
        addWord(1, code(8, 0, 8, 0), code(8, 0, 8, 0));
        due("a longer spelling that begins so", 3, () -> x.doubts(0));
        addWord(1, code(8, 0, 0, 0), code(8, 0, 8, 0));
        addWord(1, code(8, 0, 8, 0), code(0, 0, 8, 0));
        due("a coda or an onset", 4, () -> x.doubts(0));
        addWord(1, code(8, 0, 8, 0), code(8, 1, 8, 0));
        due("the last sign is another one", 4, () -> x.doubts(0));
    }

    // "their weights, together, less the greatest of them, summed over all spellings"
    private void loadOfSpellings() {
        begin("load");
        addToneless(LETTERS, NONE);
        addWord(999, vowel(0));
        due("one word of a spelling", 0, () -> x.load(0));
        addWord(1, vowel(0));
        due("less 999", 1, () -> x.load(0));
        addWord(999, vowel(0));
        due("less 999 once", 1000, () -> x.load(0));
        addWord(500, vowel(1));
        addWord(20, vowel(2));
        due("spellings of one word", 1000, () -> x.load(0));
        addWord(501, vowel(1));
        due("another spelling", 1500, () -> x.load(0));
        x.assign(0, 10, 9, true);
        due("one spelling more", 1520, () -> x.load(0));
    }

    // "The readings of a WORD are all rows of 1 to 4 SYLLABLES": 5 are none
    private void readingsOfFourSyllables() {
        begin("readings of 1 to 4");
        addToneless(PAIRS, NONE);
        giveAll(0, PAIRS, 7);
        long pair = 36 * 3;
        long closed = 36 * 8 * 3;
        for (int length = 1; length <= 4; length++) {
            for (int syllable = 0; syllable < length; syllable++) {
                x.syllable(0);
            }
            x.word(1);
        }
        addWord(1, 0, 0, 24);
        addWord(1, 0, 0, 0, 24);
        addWord(1, 24);
        addWord(1, 24, 24, 24, 24);
        dueReadings("one sign", 0, 6, pair);
        dueReadings("two signs", 0, 0, closed + pair * pair);
        dueReadings("four signs", 0, 1,
                closed * closed + 3 * closed * pair * pair + pair * pair * pair * pair);
        // Rows of three with two codas, and of four with one; five pairs are none.
        dueReadings("five signs", 0, 4,
                3 * closed * closed * pair + 4 * closed * pair * pair * pair);
        dueReadings("six signs", 0, 2, closed * closed * closed + 6 * closed * closed * pair * pair);
        dueReadings("seven signs", 0, 5, 4 * closed * closed * closed * pair);
        dueReadings("eight signs", 0, 3, closed * closed * closed * closed);
        dueReadings("four signs without codas", 0, 7,
                closed * closed + 3 * closed * pair * pair + pair * pair * pair * pair);
    }

    // "which, spelled as they are (whatever the BASE is), give the spelling of that WORD"
    private void readingsWhateverTheBase() {
        begin("readings, base");
        x.design(LETTERS, 0);
        addWord(1, vowel(0));
        addWord(1, vowel(1));
        dueReadings("no change yet", 0, 0, 1);
        x.change(0, VOWEL, 0, 1, false);
        x.change(0, TONE, 0, 2, false);
        dueReadings("9 46, which vowel 1 with tone 2 gives", 0, 0, 1);
        dueReadings("the same spelling", 0, 1, 1);
        x.mark(0, 2, false);
        dueReadings("9, with a tone that is not marked", 0, 0, 1);
        x.mark(0, 0, false);
        dueReadings("9, with two tones that are not marked", 0, 0, 2);
        x.mark(0, 1, false);
        dueReadings("9, with three", 0, 0, 3);
        x.assign(0, 8, 9, true);
        dueReadings("two vowels and three tones", 0, 0, 6);
    }

    // "of which the spelling is what it would be, if that DIALECT was the BASE"
    private void fitToDialects() {
        begin("fit");
        x.design(LETTERS, 1);
        addWord(999, vowel(0));
        addWord(1, vowel(1));
        x.change(0, VOWEL, 0, 2, false);
        x.change(1, VOWEL, 1, 2, false);
        due("to its base all", 1000, () -> x.fit(0, 1));
        due("neither word", 0, () -> x.fit(0, 0));
        due("the word that the base leaves", 999, () -> x.fit(0, 2));
        x.assign(0, 10, 9, true);
        due("spelled alike", 1000, () -> x.fit(0, 2));
        due("the word that dialect 0 leaves", 1, () -> x.fit(0, 0));
    }

    // ---- shapes

    // "s divided by 16, rounded down, and 1; the remainder of (s divided by 4, rounded down) by 4, and 1; .."
    private void shapesAtFirst() {
        begin("shapes at first");
        int[][] signsAndShapes = {{0, 111}, {1, 112}, {3, 114}, {4, 121}, {7, 124}, {8, 131}, {12, 141}, {15, 144},
            {16, 211}, {19, 214}, {31, 244}, {32, 311}, {47, 344}, {48, 411}, {49, 412}};
        for (int[] pair : signsAndShapes) {
            due("of " + pair[0], pair[1], () -> x.shape(pair[0], 1));
        }
    }

    // "the least number of strokes to be put in, taken out or made another one": 0 to 4
    private void shapesApart() {
        begin("apart");
        int[][] shapesAndWays = {{1, 1, 0}, {1, 4, 1}, {1, 11, 1}, {1, 22, 2}, {1, 1111, 3}, {1, 2222, 4},
            {4444, 4444, 0}, {4444, 4443, 1}, {4444, 3444, 1}, {4444, 444, 1}, {4444, 4434, 1}, {4444, 1, 4},
            {1234, 4321, 4}, {1234, 2344, 2}, {1234, 2341, 2}, {1234, 341, 3}, {1234, 24, 2}, {1234, 42, 3},
            {1122, 2211, 4}, {1212, 2121, 2}, {123, 1423, 1}, {12, 3124, 2}, {12, 21, 2}, {111, 222, 3}};
        for (int[] row : shapesAndWays) {
            x.shape(0, row[0]);
            x.shape(49, row[1]);
            due(row[0] + " and " + row[1], row[2], () -> x.apart(0, 49));
            due(row[1] + " and " + row[0], row[2], () -> x.apart(49, 0));
            due("itself", 0, () -> x.apart(49, 49));
        }
    }

    // "the number of places of the spelling (each one counted once) whose SIGN has another SIGN of the DESIGN,
    // in use or not, no further apart than told"
    private void errorsByPlace() {
        begin("errors by place");
        x.design(LETTERS, NONE);
        giveAll(0, LETTERS, 0);
        x.assign(0, 0, 2, true);
        x.assign(0, 1, 8, true);
        x.assign(0, 2, 49, true);
        x.shape(0, 1);
        x.shape(2, 11);
        x.shape(8, 1);
        x.shape(49, 4444);
        // 0 0 0 0 and 49 0 0: 8 and 0 have one shape, 2 is one apart from them, 49 four from all.
        addWord(3, code(5, 0, 5, 0));
        addWord(100, code(2, 0, 8, 0));
        due("far 0", 3 * 4 + 200, () -> x.errors(0, 0));
        due("far 1, each place once", 3 * 4 + 200, () -> x.errors(0, 1));
        due("far 3", 3 * 4 + 200, () -> x.errors(0, 3));
        due("far 4", 3 * 4 + 300, () -> x.errors(0, 4));
        x.assign(0, 1, 0, true);
        due("far 0, 8 is none of the design", 0, () -> x.errors(0, 0));
        due("far 1, 2 is one that is not in use", 3 * 4 + 200, () -> x.errors(0, 1));
    }

    // "whose SIGN has another SIGN of the DESIGN": the other one may be the first sign or the last one
    private void errorsByOtherSign() {
        for (int sign : new int[] {0, 49}) {
            begin("errors, another sign than " + sign);
            addToneless(LETTERS, NONE);
            giveAll(0, LETTERS, sign);
            x.assign(0, 11, 49 - sign, false);
            addWord(10, vowel(0));
            due("two apart", 10, () -> x.errors(0, 2));
            due("one told", 0, () -> x.errors(0, 1));
        }
    }

    // ---- primers

    // "of several that with the greatest weight of all WORDS that were not read ahead of it and have this SIGN ..
    // of several the lowest"
    private void primerOfSeveral() {
        begin("primer, of several the lowest");
        addToneless(LETTERS, NONE);
        addWord(5, code(1, 3, 8, 0));
        duePrimer(0, 1, 11);
        begin("primer, a word that is read ahead does not count");
        addToneless(LETTERS, NONE);
        addWord(100, vowel(3));
        addWord(3, code(7, 3, 8, 0), code(7, 2, 8, 0));
        addWord(4, code(0, 2, 1, 0));
        // 11 is read at once; then none reads alone: 10 has 7, 0 and 1 have 4, 7 has 3, and 7 reads behind 10.
        duePrimer(0, 11, 10, 7, 0, 1);
        due("cost", 100 + 9 + 20, () -> x.cost(0));
        begin("primer, what is read comes first");
        addToneless(LETTERS, NONE);
        addWord(1, vowel(3));
        addWord(999, code(0, 0, 8, 0));
        duePrimer(0, 11, 0, 8);
        due("cost", 1 + 3 * 999, () -> x.cost(0));
        due("least cost", 2 * 999 + 3, () -> x.leastCost(0));
        begin("primer, as much is read and had, the lowest");
        addToneless(LETTERS, NONE);
        addWord(6, vowel(2));
        addWord(6, vowel(1));
        addWord(6, vowel(3));
        duePrimer(0, 9, 10, 11);
        begin("primer, as much is read, more is had");
        addToneless(LETTERS, NONE);
        addWord(6, vowel(1));
        addWord(6, vowel(2));
        addWord(1, code(0, 2, 8, 0));
        duePrimer(0, 10, 9, 0);
        begin("primer, two that have one unit's sign");
        addToneless(LETTERS, NONE);
        x.assign(0, 9, 10, true);
        addWord(6, vowel(1));
        addWord(6, vowel(2));
        duePrimer(0, 10);
        due("cost", 12, () -> x.cost(0));
    }

    // "A WORD is read from the place, counted from 1, of that of its SIGNS on which comes last in it."
    private void costByPlace() {
        begin("cost by place");
        addToneless(LETTERS, NONE);
        due("without words", 0, () -> x.cost(0));
        addWord(999, vowel(0));
        due("one sign, place 1", 999, () -> x.cost(0));
        addWord(1, vowel(1));
        due("place 2", 999 + 2, () -> x.cost(0));
        addWord(1, vowel(1), vowel(0), vowel(1));
        due("the last of its signs", 999 + 2 + 2, () -> x.cost(0));
    }

    // "Returns the least cost of any primer."
    private void leastCostOfAnyOrder() {
        begin("least cost");
        addToneless(LETTERS, NONE);
        due("without words", 0, () -> x.leastCost(0));
        addWord(999, vowel(0));
        due("one sign", 999, () -> x.leastCost(0));
        addWord(1, vowel(1));
        due("999 comes first", 1001, () -> x.leastCost(0));
        addWord(998, vowel(2), vowel(3), vowel(2));
        // 8, then 10 and 11, then 9.
        due("two signs ahead of one", 999 + 3 * 998 + 4, () -> x.leastCost(0));
    }

    // ---- keys

    // "A DESIGN has 50 keys in a row, each with a SIGN; at first the key k has the SIGN k."
    private void keysAtFirst() {
        begin("keys at first");
        addDesigns(5);
        for (int sign = 0; sign < 50; sign++) {
            int s = sign;
            due("sign " + s, s, () -> x.key(s % 5, s, 49 - s));
            due("the sign that was there", s, () -> x.key(s % 5, 49 - s, 49 - s));
        }
    }

    // "the weight times how far, in keys, one goes from each SIGN of the spelling to the next one, together"
    private void travelFromEdgeToEdge() {
        begin("travel");
        addToneless(LETTERS, NONE);
        addWord(3, vowel(0));
        due("no next one", 0, () -> x.travel(0));
        addWord(2, vowel(0), vowel(0));
        due("the same key", 0, () -> x.travel(0));
        addWord(999, code(0, 1, 8, 0));
        x.key(0, 0, 49);
        x.key(0, 9, 0);
        due("from the last key to the first one", 999 * 49, () -> x.travel(0));
        x.key(0, 9, 49);
        due("from the first key to the last one", 999 * 49, () -> x.travel(0));
        x.key(0, 9, 1);
        due("to the next key", 999, () -> x.travel(0));
    }

    // "100 times the lower one, and the other one, together; of several pairs the lowest such number"; the signs in use
    private void exchangeOfSeveral() {
        begin("exchange of several");
        addToneless(LETTERS, NONE);
        addWord(1, code(0, 0, 1, 0));
        x.key(0, 8, 20);
        // 0 8 1 on the keys 0, 20 and 1 travel 20 and 19; with 0 and 8 exchanged 20 and 1, with 1 and 8 1 and 19.
        due("the least travel", 108, () -> x.exchange(0));
        x.key(0, 1, 40);
        due("in a row already", NONE, () -> x.exchange(0));
        x.key(0, 0, 30);
        // 30, 20 and 40: 10 and 20; with 0 and 8 exchanged 10 and 10, with 0 and 1 20 and 10, with 1 and 8 10 and 20.
        due("0 and 8", 8, () -> x.exchange(0));
        x.key(0, 0, 40);
        x.key(0, 1, 30);
        due("0 and 1 have taken turns", 20 + 10, () -> x.travel(0));
        due("1 and 8", 108, () -> x.exchange(0));
        begin("exchange of several pairs that are as good");
        addToneless(LETTERS, NONE);
        addWord(1, code(0, 0, 1, 0));
        x.key(0, 0, 10);
        x.key(0, 1, 11);
        x.key(0, 8, 30);
        // 10, 30 and 11: 20 and 19; with 0 and 8 exchanged 20 and 1, with 1 and 8 1 and 19.
        addWord(1, code(1, 0, 8, 0));
        // 1 8 too: 39 and 19 are 58; 0 and 8: 21 and 1, 22; 1 and 8: 1 and 19 and 19, 39.
        due("travel", 58, () -> x.travel(0));
        due("the least of 22 and 39", 8, () -> x.exchange(0));
        addWord(1, code(0, 0, 8, 0));
        // 0 8 too: 78; 0 and 8: 21 and 1 and 20, 42; 1 and 8: 20 and 19 and 1, 40.
        due("the least of 42 and 40", 108, () -> x.exchange(0));
        begin("exchange of two pairs that are as good");
        addToneless(LETTERS, NONE);
        addWord(1, code(6, 0, 7, 0));
        x.key(0, 6, 0);
        x.key(0, 7, 2);
        x.key(0, 8, 4);
        // 0, 4 and 2: 4 and 2; with 6 and 8 exchanged 4 and 2, with 7 and 8 2 and 2, with 6 and 7 2 and 4.
        due("just one pair", 708, () -> x.exchange(0));
        addWord(1, code(5, 1, 4, 0));
        x.key(0, 5, 14);
        x.key(0, 4, 12);
        x.key(0, 9, 10);
        // 14, 10 and 12: with 4 and 9 exchanged 2 and 2.
        due("two pairs, the lowest number", 409, () -> x.exchange(0));
        x.key(0, 4, 10);
        due("then the other one", 708, () -> x.exchange(0));
        x.key(0, 7, 4);
        due("then none", NONE, () -> x.exchange(0));
    }

    // ---- votes

    // "There are the GROUPS 0 to 3, each with people, 0 at first, and three worths and a DIALECT, 0 at first."
    private void groupsAtFirst() {
        begin("groups at first");
        x.design(LETTERS, NONE);
        addWord(999, vowel(0));
        addWord(999, vowel(0));
        x.change(0, VOWEL, 0, 1, false);
        for (int group = 0; group < 4; group++) {
            int g = group;
            due("worths of 0", 0, () -> x.score(g, 0));
            due("no people are for it", 0, () -> x.votes(0));
            due("none is elected", NONE, () -> x.elected());
        }
        for (int group = 0; group < 4; group++) {
            int g = group;
            due("people at first", 0, () -> x.group(g, g + 1, 1, 1));
        }
        due("dialect 1 fits", 0, () -> x.score(3, 0));
        x.group(3, 4, 1, 0);
        due("dialect 0 does not", 1998, () -> x.score(3, 0));
        due("all people", 10, () -> x.votes(0));
    }

    // "the sum, over all WORDS, of the weight times the strokes of the spelling, divided by 100, rounded down"
    private void strokesRoundedDown() {
        begin("strokes");
        addToneless(LETTERS, NONE);
        x.group(0, 0, 90, 0);
        x.group(1, 0, 10, 0);
        due("without words", 0, () -> x.score(0, 0));
        addWord(33, vowel(0));
        due("99 strokes", 0, () -> x.score(0, 0));
        x.shape(8, 1111);
        due("132 strokes", 9, () -> x.score(0, 0));
        x.shape(8, 11);
        addWord(34, vowel(0));
        due("134 strokes", 1, () -> x.score(1, 0));
        x.shape(8, 111);
        // 99 and 102 are 201.
        due("the sum is divided, not its parts", 2, () -> x.score(1, 0));
        begin("100 strokes");
        addToneless(LETTERS, NONE);
        x.group(1, 0, 10, 0);
        addWord(25, vowel(0));
        x.shape(8, 4321);
        due("100 strokes", 1, () -> x.score(1, 0));
        addWord(24, vowel(0));
        due("196 strokes", 1, () -> x.score(1, 0));
        addWord(1, vowel(0));
        due("200 strokes", 2, () -> x.score(1, 0));
    }

    /**
     * Words with vowel 0, 1 and 2, of which each dialect makes its own one vowel 3; the three groups want just the
     * fit to their own dialect. The score of a design for a group is 0, if its base is that dialect; the weight of
     * its own vowel, if its base is NONE; and otherwise that and the weight of the base's vowel.
     */
    private void prepareGroups(int[] weights, int... people) {
        for (int dialect = 0; dialect < 3; dialect++) {
            addWord(weights[dialect], vowel(dialect));
            x.change(dialect, VOWEL, dialect, 3, false);
            x.group(dialect, people[dialect], 1, dialect);
        }
    }

    // "All people of a GROUP are for the DESIGN with the least score, of several the lowest."
    private void leastScoreOfSeveral() {
        begin("the least score of several");
        prepareGroups(new int[] {10, 20, 30}, 1, 20, 300);
        x.design(LETTERS, NONE);
        x.design(LETTERS, NONE);
        due("both are as good", 321, () -> x.votes(0));
        due("the higher number has none", 0, () -> x.votes(1));
        x.design(PAIRS, 2);
        x.design(LETTERS, 2);
        x.design(LETTERS, 0);
        due("group 1", 20, () -> x.votes(0));
        due("still none", 0, () -> x.votes(1));
        due("group 2, of two the lower number", 300, () -> x.votes(2));
        due("none again", 0, () -> x.votes(3));
        due("group 0", 1, () -> x.votes(4));
        x.group(3, 999, 0, 0);
        due("all scores are 0", 1019, () -> x.votes(0));
    }

    // "If one DESIGN has more than half of all people of all GROUPS, it is elected": half is not more
    private void moreThanHalf() {
        begin("more than half");
        prepareGroups(new int[] {10, 20, 30}, 10, 10, 0);
        x.design(LETTERS, 0);
        x.design(LETTERS, 1);
        due("half and half, the highest number is left out", 0, () -> x.elected());
        x.group(1, 11, 1, 1);
        due("11 of 21", 1, () -> x.elected());
        x.group(1, 10, 1, 1);
        x.group(3, 1, 1, 0);
        due("11 of 21 of two groups", 0, () -> x.elected());
        x.group(3, 1, 1, 1);
        due("11 of 21 of two groups for the other one", 1, () -> x.elected());
        x.group(3, 0, 1, 1);
        x.group(0, 999, 1, 0);
        x.group(1, 999, 1, 1);
        due("999 and 999", 0, () -> x.elected());
        x.group(3, 999, 1, 1);
        due("1998 of 2997", 1, () -> x.elected());
        begin("more than half of one");
        prepareGroups(new int[] {10, 20, 30}, 0, 1, 0);
        x.design(LETTERS, 0);
        x.design(LETTERS, 1);
        due("1 of 1", 1, () -> x.elected());
        x.group(2, 1, 1, 1);
        due("2 of 2", 1, () -> x.elected());
        x.group(0, 1, 1, 0);
        due("2 of 3", 1, () -> x.elected());
        x.group(3, 1, 1, 0);
        due("2 of 4", 0, () -> x.elected());
        // 50 of 100 for design 1 is not more than half: 2 is left out, and its people make design 0 half, too.
        begin("half in two rounds");
        prepareGroups(new int[] {20, 10, 30}, 50, 30, 20);
        x.design(LETTERS, 1);
        x.design(LETTERS, 0);
        x.design(LETTERS, 2);
        due("1 is left out of two with half", 0, () -> x.elected());
        x.group(0, 51, 1, 0);
        due("51 of 101", 1, () -> x.elected());
    }

    // "otherwise the one with the fewest people, perhaps none, is left out"
    private void fewestPerhapsNone() {
        begin("the fewest people, perhaps none");
        prepareGroups(new int[] {10, 20, 30}, 34, 33, 33);
        x.design(LETTERS, NONE);
        x.design(LETTERS, 0);
        x.design(LETTERS, 1);
        x.design(LETTERS, 2);
        due("people for design 0", 0, () -> x.votes(0));
        // 0 goes first, though all like it second; then 3 of two with 33, whose people are for 1 with 40 and not 50.
        due("design 1 with 67", 1, () -> x.elected());
    }

    // "of several the highest number"
    private void fewestOfSeveral() {
        begin("of several the highest number");
        prepareGroups(new int[] {10, 20, 30}, 30, 30, 30);
        x.design(LETTERS, 2);
        x.design(LETTERS, 1);
        x.design(LETTERS, 0);
        // 2 goes, whose people, of group 0, have 30 for base 1 and 40 for base 2.
        due("60 for design 1", 1, () -> x.elected());
        begin("of several without people the highest number");
        prepareGroups(new int[] {10, 20, 30}, 50, 50, 0);
        x.design(LETTERS, 0);
        x.design(LETTERS, 2);
        x.design(LETTERS, 1);
        x.design(LETTERS, NONE);
        x.design(LETTERS, NONE);
        due("4, 3, 1 and 2 go", 0, () -> x.elected());
    }

    // "In a round of voting all people are for the DESIGN that is so among those that are left; the first round has
    // all."
    private void amongThoseLeft() {
        begin("among those that are left");
        prepareGroups(new int[] {10, 20, 30}, 40, 35, 25);
        x.design(LETTERS, 1);
        x.design(LETTERS, 0);
        x.design(LETTERS, 2);
        due("25 go from 2 to 1, with 40 and not 50", 1, () -> x.elected());
        due("the first round has all", 25, () -> x.votes(2));
        due("asked again", 1, () -> x.elected());
        begin("among those that are left, other weights");
        prepareGroups(new int[] {20, 10, 30}, 40, 35, 25);
        x.design(LETTERS, 1);
        x.design(LETTERS, 0);
        x.design(LETTERS, 2);
        due("25 go from 2 to 0, with 40 and not 50", 0, () -> x.elected());
        begin("one design");
        x.design(PAIRS, 1);
        x.group(2, 1, 999, 0);
        due("all are for it", 0, () -> x.elected());
    }

    // ---- reforms

    // "The way .. is the least number of SIGNS to be put in, taken out or made another one."
    private void reformFromEdgeToEdge() {
        begin("reform");
        x.design(LETTERS, NONE);
        x.design(LETTERS, NONE);
        addToneless(PAIRS, NONE);
        for (int unit : unitsOf(LETTERS)) {
            x.assign(1, unit, 49, true);
        }
        addWord(999, code(0, 0, 0, 0), code(1, 1, 1, 1), code(2, 2, 2, 2), code(3, 3, 3, 0));
        due("all 16 made another one", 16 * 999, () -> x.reform(0, 1));
        due("and back", 16 * 999, () -> x.reform(1, 0));
        due("to itself", 0, () -> x.reform(1, 1));
        // 0 36 5 37 10 38 15 39 and 0 8 44 0 1 9 45 1 2 10 46 2 3 11 44 3 have 0 and 10, in this order.
        due("16 to 8, two are the same", 14 * 999, () -> x.reform(0, 2));
        due("8 to 16, two are the same", 14 * 999, () -> x.reform(2, 0));
        due("8 to 16, none is the same", 16 * 999, () -> x.reform(2, 1));
        addWord(1, vowel(0));
        due("8 44 to 32", 14 * 999 + 2, () -> x.reform(0, 2));
        x.assign(2, 32, 44, true);
        due("8 44 to 44", 14 * 999 + 1, () -> x.reform(0, 2));
    }

    // "another WORD with the same spelling in the first DESIGN and an unlike one in the second; both of such two count"
    private void lostByBoth() {
        begin("lost");
        addToneless(LETTERS, NONE);
        x.design(LETTERS, NONE);
        addWord(1, code(8, 0, 8, 0));
        due("one word", 0, () -> x.lost(0, 1));
        addWord(20, code(8, 0, 8, 0));
        due("alike in both", 0, () -> x.lost(0, 1));
        addWord(300, code(8, 0, 8, 1));
        due("two that are alike, and a third one", 321, () -> x.lost(0, 1));
        due("the other way round", 0, () -> x.lost(1, 0));
        addWord(600, code(8, 1, 8, 1));
        due("unlike in both", 321, () -> x.lost(0, 1));
        x.assign(0, 9, 8, true);
        due("alike in the first one", 921, () -> x.lost(0, 1));
        due("to itself", 0, () -> x.lost(0, 0));
        begin("lost of two with two unlike words each");
        addToneless(LETTERS, NONE);
        x.design(LETTERS, NONE);
        addWord(999, code(8, 0, 8, 0));
        addWord(999, code(8, 0, 8, 1));
        addWord(999, code(8, 1, 8, 1));
        addWord(999, code(8, 1, 8, 2));
        due("all four", 4 * 999, () -> x.lost(0, 1));
    }
}
