/**
 * Each sentence of the promises that names a boundary case: the values at its edge on either side, the answer that
 * the sentence gives, and which exception comes first. The sentence stands above its test.
 */
public final class BoundaryTest extends Bench {
    private BoundaryTest() {
        super("BoundaryTest");
    }

    public static void main(String[] args) {
        new BoundaryTest().test();
    }

    private void test() {
        newObject();
        syllableCode();
        syllableDraft();
        wordWeight();
        wordDraft();
        wordCount();
        wordEmptiesDraft();
        changeDialectAndPart();
        changeValues();
        changeCount();
        changeToTheSame();
        spokenDialectAndWord();
        spokenPlace();
        designKindAndBase();
        designCount();
        designNumber();
        wordNumber();
        assignUnit();
        assignSign();
        assignShared();
        assignSharedWithUnmarked();
        markTone();
        spelledPlace();
        loadIfTone();
        fitDialect();
        shapeSign();
        shapeNumber();
        apartSigns();
        clearOfOneSign();
        errorsFar();
        primerPlace();
        leastCostOfTen();
        keySignAndKey();
        keyTaken();
        exchangeOfNone();
        groupNumbers();
        groupFigures();
        scoreGroup();
        electedOfNone();
        electedWithoutPeople();
        check.end();
    }

    // "Begins without WORDS, CHANGES and DESIGNS."
    private void newObject() {
        begin("a new object");
        due("word 0", INDEX, () -> x.spoken(NONE, 0, 0));
        due("design 0", INDEX, () -> x.doubts(0));
        due("the number of the first word", 0, () -> addWord(1, 500));
        for (int dialect = 0; dialect < 3; dialect++) {
            int d = dialect;
            due("as it is, by " + d, 500, () -> x.spoken(d, 0, 0));
            due("changes of " + d, 1, () -> x.change(d, TONE, 0, 0, true));
        }
        due("the number of the first design", 0, () -> x.design(PAIRS, NONE));
        due("another object has none", STATE, () -> new Letterforge().elected());
        due("another object has no word", INDEX, () -> new Letterforge().spoken(NONE, 0, 0));
    }

    // ---- words

    // "Throws IllegalArgumentException if code is out of range", which is 0 to 971
    private void syllableCode() {
        begin("syllable, code");
        dueEdges("code", 0, 971, ARGUMENT, () -> { }, v -> x.syllable(v), v -> 1);
        dueEdges("code of the fourth", 0, 971, ARGUMENT, () -> addDraft(3), v -> x.syllable(v), v -> 4);
    }

    private void addDraft(int syllables) {
        for (int syllable = 0; syllable < syllables; syllable++) {
            x.syllable(syllable);
        }
    }

    // "Throws IllegalStateException if the draft has 4"; "Returns how many the draft has then."
    private void syllableDraft() {
        begin("syllable, draft");
        for (int many = 1; many <= 4; many++) {
            due("so many", many, () -> x.syllable(9));
        }
        due("a fifth", STATE, () -> x.syllable(9));
        due("a fifth again", STATE, () -> x.syllable(971));
        due("a fifth out of range, the first exception", ARGUMENT, () -> x.syllable(972));
        due("a fifth below it", ARGUMENT, () -> x.syllable(-1));
        due("the four become a word", 0, () -> x.word(1));
        due("the fourth", 9, () -> x.spoken(NONE, 0, 3));
        due("no fifth", NONE, () -> x.spoken(NONE, 0, 4));
        due("then one", 1, () -> x.syllable(9));
    }

    // "Throws IllegalArgumentException if weight is out of range", which is 1 to 999
    private void wordWeight() {
        begin("word, weight");
        dueEdges("weight", 1, 999, ARGUMENT, () -> addDraft(1), v -> x.word(v), v -> 0);
        dueEdges("weight of the last word", 1, 999, ARGUMENT, () -> {
            addWords(19);
            addDraft(1);
        }, v -> x.word(v), v -> 19);
        for (int weight : new int[] {1, 999}) {
            begin("a word with the weight " + weight);
            addWord(weight, 0);
            addWord(weight, 0);
            x.design(LETTERS, NONE);
            due("the load", weight, () -> x.load(0));
        }
    }

    // "Throws IllegalStateException if the draft is empty"
    private void wordDraft() {
        begin("word, draft");
        due("empty at first", STATE, () -> x.word(1));
        due("empty, weight 0, the first exception", ARGUMENT, () -> x.word(0));
        due("empty, weight 1000", ARGUMENT, () -> x.word(1000));
        for (int syllables = 1; syllables <= 4; syllables++) {
            int many = syllables;
            begin("a word of " + many);
            addDraft(many);
            due("its number", 0, () -> x.word(1));
            due("its last one", many - 1, () -> x.spoken(NONE, 0, many - 1));
            due("behind it", NONE, () -> x.spoken(NONE, 0, many));
            due("empty then", STATE, () -> x.word(1));
        }
    }

    // "Throws IllegalStateException if .. there are 20 WORDS"
    private void wordCount() {
        begin("word, 20 words");
        for (int number = 0; number < 20; number++) {
            int n = number;
            x.syllable(n);
            due("number", n, () -> x.word(1));
        }
        due("no draft and 20 words", STATE, () -> x.word(1));
        x.syllable(20);
        due("a twenty-first", STATE, () -> x.word(1));
        due("a twenty-first, weight 0, the first exception", ARGUMENT, () -> x.word(0));
        due("word 19", 19, () -> x.spoken(NONE, 19, 0));
        due("no word 20", INDEX, () -> x.spoken(NONE, 20, 0));
        due("the draft goes on", 2, () -> x.syllable(20));
    }

    // "Makes the draft a WORD; it is empty then."
    private void wordEmptiesDraft() {
        begin("word, the draft then");
        addWord(1, 1, 2, 3, 4);
        due("empty", STATE, () -> x.word(1));
        due("one", 1, () -> x.syllable(7));
        x.word(1);
        due("the word after a longer one", 7, () -> x.spoken(NONE, 1, 0));
        due("has one", NONE, () -> x.spoken(NONE, 1, 1));
        due("the first one stays", 4, () -> x.spoken(NONE, 0, 3));
    }

    // "Throws IndexOutOfBoundsException if there is no such DIALECT or PART"
    private void changeDialectAndPart() {
        begin("change, dialect and part");
        dueEdges("dialect", 0, 2, INDEX, () -> { }, v -> x.change(v, TONE, 0, 1, false), v -> 1);
        dueEdges("part", ONSET, TONE, INDEX, () -> { }, v -> x.change(0, v, 0, 1, false), v -> 1);
        dueEdges("dialect with a wrong value", 0, 2, INDEX, () -> { },
                v -> x.change(v, TONE, 3, 0, false), v -> ARGUMENT);
        dueEdges("part with wrong values", ONSET, TONE, INDEX, () -> { },
                v -> x.change(0, v, -1, 9, false), v -> ARGUMENT);
        dueEdges("part of a full dialect", ONSET, TONE, INDEX, () -> addChanges(0, 6),
                v -> x.change(0, v, 0, 0, false), v -> STATE);
        begin("change, no dialect when one is full");
        addChanges(0, 6);
        due("dialect 3, no part, no value", INDEX, () -> x.change(3, 4, 9, 9, false));
        due("dialect -1", INDEX, () -> x.change(NONE, ONSET, 0, 0, false));
    }

    private void addChanges(int dialect, int changes) {
        for (int change = 0; change < changes; change++) {
            x.change(dialect, TONE, 0, 0, false);
        }
    }

    // "Throws IllegalArgumentException if from or to is no value of the PART"
    private void changeValues() {
        begin("change, values");
        int[] greatest = {8, 3, 8, 2};
        for (int part = ONSET; part <= TONE; part++) {
            int p = part;
            int most = greatest[p];
            dueEdges("from of part " + p, 0, most, ARGUMENT, () -> { }, v -> x.change(1, p, v, 1, true), v -> 1);
            dueEdges("to of part " + p, 0, most, ARGUMENT, () -> { }, v -> x.change(1, p, 1, v, true), v -> 1);
            dueEdges("both of part " + p, 0, most, ARGUMENT, () -> { }, v -> x.change(1, p, v, v, true), v -> 1);
            dueEdges("from of part " + p + ", full", 0, most, ARGUMENT, () -> addChanges(1, 6),
                    v -> x.change(1, p, v, 1, true), v -> STATE);
            dueEdges("to of part " + p + ", full", 0, most, ARGUMENT, () -> addChanges(1, 6),
                    v -> x.change(1, p, 1, v, true), v -> STATE);
        }
    }

    // "Throws IllegalStateException if it has 6"; "Returns how many the DIALECT has then."
    private void changeCount() {
        begin("change, 6 changes");
        addWord(1, code(0, 0, 0, 0));
        for (int dialect = 2; dialect >= 0; dialect--) {
            int d = dialect;
            for (int number = 1; number <= 6; number++) {
                int n = number;
                due("so many of " + d, n, () -> x.change(d, ONSET, n - 1, n, false));
            }
            due("a seventh of " + d, STATE, () -> x.change(d, ONSET, 6, 7, false));
            due("the six are done, no seventh", code(6, 0, 0, 0), () -> x.spoken(d, 0, 0));
        }
        due("a word that comes later", 1, () -> addWord(1, code(0, 1, 2, 1), code(6, 0, 8, 0)));
        due("the six are done with it", code(6, 1, 2, 1), () -> x.spoken(1, 1, 0));
        due("no seventh", code(6, 0, 8, 0), () -> x.spoken(1, 1, 1));
    }

    // "to: a value of it, perhaps the same"
    private void changeToTheSame() {
        begin("change to the same");
        addWord(1, code(3, 3, 8, 2));
        int[] values = {3, 3, 8, 2};
        for (int part = ONSET; part <= TONE; part++) {
            int p = part;
            due("it counts", p + 1, () -> x.change(0, p, values[p], values[p], p % 2 == 0));
            due("nothing is changed", code(3, 3, 8, 2), () -> x.spoken(0, 0, 0));
        }
    }

    // "Throws IndexOutOfBoundsException if there is no such DIALECT or WORD"; "0 to 2, or NONE for the WORD as it is"
    private void spokenDialectAndWord() {
        begin("spoken, dialect and word");
        Runnable ready = () -> {
            addWord(1, code(8, 1, 8, 0));
            x.change(0, VOWEL, 1, 0, false);
            x.change(1, VOWEL, 1, 2, false);
            x.change(2, VOWEL, 1, 3, false);
        };
        int[] vowels = {1, 0, 2, 3};
        dueEdges("dialect", NONE, 2, INDEX, ready, v -> x.spoken(v, 0, 0), v -> vowel(vowels[v + 1]));
        dueEdges("word", 0, 0, INDEX, ready, v -> x.spoken(2, v, 0), v -> vowel(3));
        dueEdges("word as it is", 0, 0, INDEX, ready, v -> x.spoken(NONE, v, 0), v -> vowel(1));
        dueEdges("dialect, no word", NONE, 2, INDEX, () -> { }, v -> x.spoken(v, 0, 0), v -> INDEX);
    }

    // "Returns the code; NONE if it has not so many."; "Throws .. place is below 0"
    private void spokenPlace() {
        for (int length = 1; length <= 4; length++) {
            int many = length;
            begin("spoken, a word of " + many);
            Runnable ready = () -> {
                addWord(1, 5, 5, 5, 5);
                addDraft(many);
                x.word(1);
            };
            for (int dialect = NONE; dialect < 3; dialect++) {
                int d = dialect;
                dueEdgesAndNone("place by " + d, many - 1, INDEX, ready, v -> x.spoken(d, 1, v), v -> v);
            }
        }
    }

    // ---- designs

    // "Throws IllegalArgumentException if kind or base is out of range"
    private void designKindAndBase() {
        begin("design, kind and base");
        dueEdges("kind", LETTERS, PAIRS, ARGUMENT, () -> { }, v -> x.design(v, NONE), v -> 0);
        dueEdges("base", NONE, 2, ARGUMENT, () -> { }, v -> x.design(PAIRS, v), v -> 0);
        dueEdges("kind of a sixth", LETTERS, PAIRS, ARGUMENT, () -> addDesigns(5), v -> x.design(v, 0), v -> STATE);
        dueEdges("base of a sixth", NONE, 2, ARGUMENT, () -> addDesigns(5), v -> x.design(LETTERS, v), v -> STATE);
        begin("design, base");
        addWord(1, vowel(0));
        for (int dialect = 0; dialect < 3; dialect++) {
            x.change(dialect, VOWEL, 0, dialect + 1, false);
        }
        for (int base = NONE; base < 3; base++) {
            int b = base;
            due("number", b + 1, () -> x.design(LETTERS, b));
            due("its vowel by base " + b, 9 + b, () -> x.spelled(b + 1, 0, 0));
        }
    }

    // "Throws IllegalStateException if there are 5"
    private void designCount() {
        begin("design, 5 designs");
        for (int number = 0; number < 5; number++) {
            int n = number;
            due("number", n, () -> x.design(LETTERS, NONE));
        }
        due("a sixth", STATE, () -> x.design(LETTERS, NONE));
        due("a sixth of pairs", STATE, () -> x.design(PAIRS, 2));
        due("design 4", 0, () -> x.doubts(4));
        due("no design 5", INDEX, () -> x.doubts(5));
    }

    private interface OfDesign {
        Object with(Letterforge forge, int design);
    }

    /** A call that needs a design, with a design that there is, and in turn with the numbers of none. */
    private void dueNeedsDesign(String call, Object want, OfDesign asked) {
        for (int designs : new int[] {0, 1, 4, 5}) {
            begin(call + " with " + designs + " designs");
            Runnable ready = () -> {
                addWord(1, vowel(0));
                addDesigns(designs);
            };
            if (designs > 0) {
                dueEdges("design", 0, designs - 1, INDEX, ready, v -> asked.with(x, v), v -> want);
            }
            ready = () -> addDesigns(designs);
            for (int design : new int[] {-1, designs, 5, LOWEST, HIGHEST}) {
                begin(ready);
                due("design " + design + " without words", INDEX, () -> asked.with(x, design));
            }
        }
    }

    // "Throws IndexOutOfBoundsException if there is no such DESIGN", of each call that says it; the word is 8 44
    private void designNumber() {
        dueNeedsDesign("assign", 11, (forge, d) -> forge.assign(d, 11, 49, false));
        dueNeedsDesign("mark", true, (forge, d) -> forge.mark(d, 0, false));
        dueNeedsDesign("spelled", 8, (forge, d) -> forge.spelled(d, 0, 0));
        dueNeedsDesign("doubts", 0, (forge, d) -> forge.doubts(d));
        dueNeedsDesign("load", 0, (forge, d) -> forge.load(d));
        dueNeedsDesign("loadIf", 0, (forge, d) -> forge.loadIf(d, 0));
        dueNeedsDesign("readings", 1L, (forge, d) -> forge.readings(d, 0));
        dueNeedsDesign("readingsAnew", 1L, (forge, d) -> forge.readingsAnew(d, 0));
        dueNeedsDesign("fit", 1, (forge, d) -> forge.fit(d, 0));
        dueNeedsDesign("clear", 1, (forge, d) -> forge.clear(d));
        dueNeedsDesign("errors", 0, (forge, d) -> forge.errors(d, 0));
        dueNeedsDesign("primer", 8, (forge, d) -> forge.primer(d, 0));
        dueNeedsDesign("cost", 2, (forge, d) -> forge.cost(d));
        dueNeedsDesign("leastCost", 2, (forge, d) -> forge.leastCost(d));
        dueNeedsDesign("key", 0, (forge, d) -> forge.key(d, 0, 1));
        dueNeedsDesign("travel", 36, (forge, d) -> forge.travel(d));
        dueNeedsDesign("exchange", NONE, (forge, d) -> forge.exchange(d));
        dueNeedsDesign("score", 0, (forge, d) -> forge.score(0, d));
        dueNeedsDesign("votes", 0, (forge, d) -> forge.votes(d));
        dueNeedsDesign("reform from", 0, (forge, d) -> forge.reform(d, 0));
        dueNeedsDesign("reform to", 0, (forge, d) -> forge.reform(0, d));
        dueNeedsDesign("lost from", 0, (forge, d) -> forge.lost(d, 0));
        dueNeedsDesign("lost to", 0, (forge, d) -> forge.lost(0, d));
        // No design and a wrong value of another kind: the exception that the throws clause names first.
        dueNeedsDesign("assign, no sign", ARGUMENT, (forge, d) -> forge.assign(d, 0, 50, false));
        dueNeedsDesign("assign, a shared sign", STATE, (forge, d) -> forge.assign(d, 0, 1, false));
        dueNeedsDesign("errors, no far", ARGUMENT, (forge, d) -> forge.errors(d, 5));
    }

    // "Throws IndexOutOfBoundsException if there is no such .. WORD", of each call that says it
    private void wordNumber() {
        for (int words : new int[] {1, 2, 19, 20}) {
            begin("with " + words + " words");
            Runnable ready = () -> {
                addWords(words);
                addDesigns(1);
                x.syllable(0);
            };
            int last = words - 1;
            dueEdges("spoken, word", 0, last, INDEX, ready, v -> x.spoken(NONE, v, 0), v -> vowel(0));
            dueEdges("spoken by 2, word", 0, last, INDEX, ready, v -> x.spoken(2, v, 0), v -> vowel(0));
            dueEdges("spelled, word", 0, last, INDEX, ready, v -> x.spelled(0, v, 0), v -> 8);
            dueEdges("readings, word", 0, last, INDEX, ready, v -> x.readings(0, v), v -> 1L);
            dueEdges("readingsAnew, word", 0, last, INDEX, ready, v -> x.readingsAnew(0, v), v -> 1L);
        }
        begin("without words, with a draft");
        addDesigns(1);
        x.syllable(0);
        due("spoken", INDEX, () -> x.spoken(NONE, 0, 0));
        due("spelled", INDEX, () -> x.spelled(0, 0, 0));
        due("readings", INDEX, () -> x.readings(0, 0));
        due("readingsAnew", INDEX, () -> x.readingsAnew(0, 0));
    }

    // "Throws IndexOutOfBoundsException if there is no such DESIGN or unit of it"
    private void assignUnit() {
        begin("assign, unit");
        Runnable letters = () -> x.design(LETTERS, NONE);
        Runnable pairs = () -> x.design(PAIRS, NONE);
        dueEdges("unit of letters", 0, 11, INDEX, letters, v -> x.assign(0, v, 49, false), v -> v);
        dueEdges("mark of letters", 44, 46, INDEX, letters, v -> x.assign(0, v, 49, false), v -> v);
        dueEdges("unit of pairs", 0, 46, INDEX, pairs, v -> x.assign(0, v, 49, false), v -> v);
        dueEdges("unit of letters, sign 50", 0, 11, INDEX, letters, v -> x.assign(0, v, 50, true), v -> ARGUMENT);
        dueEdges("unit of pairs, sign -1", 0, 46, INDEX, pairs, v -> x.assign(0, v, -1, true), v -> ARGUMENT);
        dueEdges("unit of pairs, shared", 0, 46, INDEX, pairs, v -> x.assign(0, v, 20, false), v -> STATE);
        begin(letters);
        for (int unit = 12; unit <= 43; unit++) {
            int u = unit;
            due("letters have no unit " + u, INDEX, () -> x.assign(0, u, u, true));
        }
        begin(pairs);
        for (int unit : new int[] {35, 36, 43, 44}) {
            due("pairs have the unit " + unit, unit, () -> x.assign(0, unit, unit, false));
        }
    }

    // "Throws IllegalArgumentException if sign is out of range", which is 0 to 49
    private void assignSign() {
        begin("assign, sign");
        Runnable ready = () -> {
            addWord(1, code(3, 0, 8, 0));
            x.design(LETTERS, NONE);
        };
        dueEdges("sign", 0, 49, ARGUMENT, ready, v -> x.assign(0, 3, v, true), v -> 3);
        dueEdges("sign, not shared", 0, 49, ARGUMENT, ready, v -> x.assign(0, 3, v, false), v -> v == 0 ? STATE : 3);
        for (int sign : new int[] {0, 49}) {
            begin(ready);
            x.assign(0, 3, sign, true);
            dueSpelling(0, 0, sign, 8, 44);
            due("the sign that it had", sign, () -> x.assign(0, 3, 3, false));
        }
    }

    // "Throws IllegalStateException if another unit of it has the SIGN, and mayShare is false"
    private void assignShared() {
        begin("assign, shared");
        x.design(LETTERS, NONE);
        x.design(PAIRS, NONE);
        due("another unit has it", STATE, () -> x.assign(0, 0, 7, false));
        due("it may share", 0, () -> x.assign(0, 0, 7, true));
        due("its own sign, which is shared", STATE, () -> x.assign(0, 7, 7, false));
        due("its own sign, which it may share", 7, () -> x.assign(0, 7, 7, true));
        due("its own sign alone", 5, () -> x.assign(0, 5, 5, false));
        due("a sign that was given up", 1, () -> x.assign(0, 1, 0, false));
        due("the numbers 12 to 43 are no units of letters", 2, () -> x.assign(0, 2, 12, false));
        due("nor is 43", 3, () -> x.assign(0, 3, 43, false));
        due("the other design has both", STATE, () -> x.assign(1, 44, 12, false));
        due("and 43", STATE, () -> x.assign(1, 44, 43, false));
        due("no unit has 47", 44, () -> x.assign(1, 44, 47, false));
        due("no unit has 48", 0, () -> x.assign(1, 0, 48, false));
        due("no unit has 49", 46, () -> x.assign(1, 46, 49, false));
        due("now one has it", STATE, () -> x.assign(1, 45, 49, false));
        due("in one design, not in the other one", 4, () -> x.assign(0, 4, 49, false));
    }

    // "(marks of TONES that are not marked are units as well)"
    private void assignSharedWithUnmarked() {
        for (int kind : new int[] {LETTERS, PAIRS}) {
            begin("assign, shared with a mark, kind " + kind);
            addToneless(kind, NONE);
            for (int tone = 0; tone < 3; tone++) {
                int unit = 44 + tone;
                int free = 49 - tone;
                due("the sign of mark " + tone, STATE, () -> x.assign(0, 0, unit, false));
                due("it may share", 0, () -> x.assign(0, 0, unit, true));
                due("the mark, its own sign", STATE, () -> x.assign(0, unit, unit, false));
                due("the mark, another sign", unit, () -> x.assign(0, unit, free, false));
                due("back", unit, () -> x.assign(0, 0, 0, false));
            }
        }
    }

    // "Throws IndexOutOfBoundsException if there is no such DESIGN or TONE", of mark
    private void markTone() {
        begin("mark, tone");
        Runnable ready = () -> x.design(LETTERS, NONE);
        dueEdges("tone marked", 0, 2, INDEX, ready, v -> x.mark(0, v, true), v -> true);
        dueEdges("tone unmarked", 0, 2, INDEX, ready, v -> x.mark(0, v, false), v -> true);
        dueEdges("tone, when it was not", 0, 2, INDEX, () -> addToneless(LETTERS, NONE),
                v -> x.mark(0, v, true), v -> false);
        dueEdges("no design, tone", 0, 2, INDEX, ready, v -> x.mark(1, v, true), v -> INDEX);
    }

    // "Returns the SIGN; NONE if there are not so many."; "Throws .. place is below 0", of spelled
    private void spelledPlace() {
        begin("spelled, place");
        Runnable longest = () -> {
            addWord(1, 0, 0, 0, 0);
            x.design(LETTERS, NONE);
            x.design(PAIRS, NONE);
        };
        dueEdgesAndNone("place", 15, INDEX, longest, v -> x.spelled(0, 0, v), v -> 0);
        dueEdgesAndNone("place by pairs", 11, INDEX, longest, v -> x.spelled(1, 0, v), v -> v == 0 ? 0 : 36);
        Runnable shortest = () -> {
            addWord(1, 0, 0, 0, 0);
            addWord(1, vowel(3));
            addToneless(LETTERS, NONE);
            addToneless(PAIRS, NONE);
        };
        dueEdgesAndNone("only place", 0, INDEX, shortest, v -> x.spelled(0, 1, v), v -> 11);
        dueEdgesAndNone("only place by pairs", 0, INDEX, shortest, v -> x.spelled(1, 1, v), v -> 35);
    }

    // ---- doubts

    // "Throws IndexOutOfBoundsException if there is no such DESIGN or TONE", of loadIf
    private void loadIfTone() {
        begin("loadIf, tone");
        Runnable ready = () -> {
            addWord(3, code(8, 0, 8, 0));
            addWord(4, code(8, 0, 8, 2));
            x.design(LETTERS, NONE);
            x.mark(0, 1, false);
        };
        dueEdges("tone", 0, 2, INDEX, ready, v -> x.loadIf(0, v), v -> 0);
        dueEdges("tone when 0 is not marked", 0, 2, INDEX, () -> {
            ready.run();
            x.mark(0, 0, false);
        }, v -> x.loadIf(0, v), v -> v == 2 ? 3 : 0);
        dueEdges("tone without words", 0, 2, INDEX, () -> x.design(LETTERS, NONE), v -> x.loadIf(0, v), v -> 0);
        dueEdges("no design, tone", 0, 2, INDEX, ready, v -> x.loadIf(1, v), v -> INDEX);
    }

    // "Throws IndexOutOfBoundsException if there is no such DESIGN or DIALECT", of fit; NONE is no dialect
    private void fitDialect() {
        begin("fit, dialect");
        Runnable ready = () -> {
            addWord(3, vowel(0));
            addWord(4, vowel(1));
            x.change(0, VOWEL, 0, 3, false);
            x.change(2, VOWEL, 1, 3, false);
            x.design(PAIRS, NONE);
        };
        dueEdges("dialect", 0, 2, INDEX, ready, v -> x.fit(0, v), v -> v == 0 ? 4 : 3);
        dueEdges("dialect without words", 0, 2, INDEX, () -> x.design(PAIRS, 1), v -> x.fit(0, v), v -> 0);
        dueEdges("no design, dialect", 0, 2, INDEX, ready, v -> x.fit(1, v), v -> INDEX);
    }

    // ---- shapes

    // "Throws IndexOutOfBoundsException if there is no such SIGN", of shape
    private void shapeSign() {
        begin("shape, sign");
        dueEdges("sign", 0, 49, INDEX, () -> { }, v -> x.shape(v, 1), v -> v == 0 ? 111 : 412);
        dueEdges("sign and no shape", 0, 49, INDEX, () -> { }, v -> x.shape(v, 0), v -> ARGUMENT);
        dueEdges("sign and 5 figures", 0, 49, INDEX, () -> { }, v -> x.shape(v, 11111), v -> ARGUMENT);
    }

    // "Throws IllegalArgumentException if shape is none": "a number of 1 to 4 figures, each 1 to 4"
    private void shapeNumber() {
        begin("shape, number");
        int before = 111;
        for (int number = -120; number <= 50000; number++) {
            int n = number;
            if (n % 400 == 0) {
                // An object is used for at most 512 calls.
                x = new Letterforge();
                before = 111;
            }
            boolean isShape = String.valueOf(n).matches("[1-4]{1,4}");
            due("number " + n, isShape ? before : ARGUMENT, () -> x.shape(0, n));
            before = isShape ? n : before;
        }
        x = new Letterforge();
        for (int number : new int[] {LOWEST, LOWEST + 1, -1111, -4444, HIGHEST, 1111111111, 2111111111, 100001111}) {
            due("number " + number, ARGUMENT, () -> x.shape(0, number));
        }
        due("the shape that it has", 111, () -> x.shape(0, 4444));
        due("the greatest shape", 4444, () -> x.shape(0, 1));
        due("the least shape", 1, () -> x.shape(0, 111));
    }

    // "Throws IndexOutOfBoundsException if there is no such SIGN, of either"
    private void apartSigns() {
        begin("apart, signs");
        // 111 and 412 are two apart.
        dueEdges("sign", 0, 49, INDEX, () -> { }, v -> x.apart(v, 49), v -> v == 0 ? 2 : 0);
        dueEdges("other", 0, 49, INDEX, () -> { }, v -> x.apart(0, v), v -> v == 0 ? 0 : 2);
        due("neither", INDEX, () -> x.apart(50, -1));
    }

    // "Returns how far; NONE if all its units have one SIGN."
    private void clearOfOneSign() {
        for (int kind : new int[] {LETTERS, PAIRS}) {
            for (int unit : unitsOf(kind)) {
                begin("clear, kind " + kind + ", all but unit " + unit);
                x.design(kind, NONE);
                giveAll(0, kind, 20);
                due("one sign", NONE, () -> x.clear(0));
                x.shape(20, 1111);
                x.shape(49, 2222);
                x.assign(0, unit, 49, false);
                due("two signs", 4, () -> x.clear(0));
                x.shape(49, 1111);
                due("two unlike signs with one shape", 0, () -> x.clear(0));
                x.assign(0, unit, 20, true);
                due("one sign again", NONE, () -> x.clear(0));
            }
        }
        begin("clear, all but an unmarked mark");
        addToneless(PAIRS, NONE);
        giveAll(0, PAIRS, 0);
        x.assign(0, 44, 1, false);
        due("two signs", 1, () -> x.clear(0));
    }

    // "Throws IllegalArgumentException if far is out of range", which is 0 to 4
    private void errorsFar() {
        begin("errors, far");
        Runnable ready = () -> {
            addWord(7, code(0, 0, 8, 0));
            x.design(LETTERS, NONE);
            giveAll(0, LETTERS, 30);
            x.assign(0, 0, 20, true);
            x.shape(20, 1111);
            x.shape(30, 2222);
        };
        // 20 30 30, and the two are 4 apart.
        dueEdges("far", 0, 4, ARGUMENT, ready, v -> x.errors(0, v), v -> v == 0 ? 0 : 21);
        begin(ready);
        due("far 3, 4 apart", 0, () -> x.errors(0, 3));
        x.shape(20, 2111);
        due("far 2, 3 apart", 0, () -> x.errors(0, 2));
        due("far 3, 3 apart", 21, () -> x.errors(0, 3));
        x.shape(20, 2222);
        due("far 0, the same shape", 21, () -> x.errors(0, 0));
        due("no design, far", INDEX, () -> x.errors(1, -1));
    }

    // ---- primers

    // "Returns the SIGN; NONE if there are not so many."; "Throws .. place is below 0", of primer
    private void primerPlace() {
        begin("primer, place");
        Runnable ready = () -> {
            addWord(1, code(7, 3, 8, 2));
            x.design(LETTERS, NONE);
        };
        dueEdgesAndNone("place", 2, INDEX, ready, v -> x.primer(0, v), v -> v == 0 ? 7 : 46);
        dueEdges("place without words", 0, HIGHEST, INDEX, () -> x.design(LETTERS, NONE),
                v -> x.primer(0, v), v -> NONE);
        begin("primer of all 47 signs");
        x.design(PAIRS, NONE);
        addWordsOfAllUnits();
        // First the marks, which all words have; then none is better than another one, but the lowest comes first.
        due("the first one", 44, () -> x.primer(0, 0));
        due("the lowest one", 0, () -> x.primer(0, 3));
        due("the last one", 43, () -> x.primer(0, 46));
        due("behind the last one", NONE, () -> x.primer(0, 47));
        // The words 2 to 8 are read with their last pairs, 0 and 1 with the codas 39 and 43.
        due("cost", 15 + 19 + 23 + 27 + 31 + 35 + 39 + 43 + 47, () -> x.cost(0));
        due("leastCost", STATE, () -> x.leastCost(0));
    }

    /** Nine words in which each unit of pairs stands; in each one all marks, in the first two all codas. */
    private void addWordsOfAllUnits() {
        for (int pair = 0; pair < 36; pair++) {
            x.syllable(code(pair / 4, pair % 4, Math.min(pair, 8), pair % 3));
            if (pair % 4 == 3) {
                x.word(1);
            }
        }
    }

    // "Throws IllegalStateException if more than 10 SIGNS are in use"
    private void leastCostOfTen() {
        begin("leastCost, 10 signs");
        addToneless(LETTERS, NONE);
        addWord(2, code(0, 0, 1, 0), code(2, 0, 3, 0), code(4, 0, 5, 0), code(6, 0, 7, 0));
        due("9 signs", 18, () -> x.leastCost(0));
        addWord(1, vowel(1));
        due("10 signs", 1 + 20, () -> x.leastCost(0));
        x.mark(0, 1, true);
        due("10 signs, and a mark that is not in use", 21, () -> x.leastCost(0));
        x.mark(0, 0, true);
        due("11 signs with the mark in use", STATE, () -> x.leastCost(0));
        due("the last one of 11", 8, () -> x.primer(0, 10));
        due("no twelfth", NONE, () -> x.primer(0, 11));
        x.assign(0, 44, 9, true);
        due("10 signs, the mark shares one", 1 + 20, () -> x.leastCost(0));
        due("no design", INDEX, () -> x.leastCost(1));
    }

    // ---- keys

    // "Throws IndexOutOfBoundsException if there is no such DESIGN, SIGN or key"
    private void keySignAndKey() {
        begin("key, sign and key");
        Runnable ready = () -> x.design(LETTERS, NONE);
        dueEdges("sign", 0, 49, INDEX, ready, v -> x.key(0, v, 25), v -> v);
        dueEdges("key", 0, 49, INDEX, ready, v -> x.key(0, 25, v), v -> 25);
        dueEdges("both", 0, 49, INDEX, ready, v -> x.key(0, v, v), v -> v);
        dueEdges("the other edge", 0, 49, INDEX, ready, v -> x.key(0, v, 49 - v), v -> v);
        due("no design, no sign", INDEX, () -> x.key(1, 50, 50));
    }

    // "the SIGN that was there comes to where the first one was"; "Returns the key on which it was."
    private void keyTaken() {
        begin("key, the sign that was there");
        x.design(LETTERS, NONE);
        x.design(LETTERS, NONE);
        due("0 to the last key", 0, () -> x.key(0, 0, 49));
        due("49 came to the first key", 0, () -> x.key(0, 49, 0));
        due("0 stays on the last key, and back", 49, () -> x.key(0, 0, 0));
        due("49 came back", 49, () -> x.key(0, 49, 49));
        due("a sign onto its own key", 30, () -> x.key(0, 30, 30));
        for (int sign = 0; sign < 50; sign++) {
            int s = sign;
            due("all are where they were, " + s, s, () -> x.key(0, s, s));
            due("in the other design, too, " + s, s, () -> x.key(1, s, s));
        }
    }

    // "Returns that number; NONE if no exchange makes the travel less."
    private void exchangeOfNone() {
        begin("exchange of none");
        addToneless(LETTERS, NONE);
        due("without words", NONE, () -> x.exchange(0));
        addWord(1, vowel(0));
        due("one sign", NONE, () -> x.exchange(0));
        addWord(1, code(7, 0, 8, 0));
        due("two signs", NONE, () -> x.exchange(0));
        // 6 8 7: with keys 6, 8 and 7 the travel is 1 + 2 + 1; 7 and 8 exchanged make it 1 + 1 + 1.
        addWord(1, code(6, 0, 7, 0));
        due("travel", 4, () -> x.travel(0));
        due("one less", 708, () -> x.exchange(0));
        x.key(0, 7, 8);
        due("travel then", 3, () -> x.travel(0));
        due("an exchange that makes it as much is none", NONE, () -> x.exchange(0));
    }

    // ---- votes

    // "Throws IndexOutOfBoundsException if there is no such GROUP or DIALECT";
    // "Throws IllegalArgumentException if people or worths is not from 0 to 999"
    private void groupNumbers() {
        begin("group, numbers");
        dueEdges("group", 0, 3, INDEX, () -> { }, v -> x.group(v, 1, 1, 0), v -> 0);
        dueEdges("dialect", 0, 2, INDEX, () -> { }, v -> x.group(0, 1, 1, v), v -> 0);
        dueEdges("people", 0, 999, ARGUMENT, () -> { }, v -> x.group(0, v, 1, 0), v -> 0);
        dueEdges("worths", 0, 999, ARGUMENT, () -> { }, v -> x.group(0, 1, v, 0), v -> 0);
        dueEdges("group and no people", 0, 3, INDEX, () -> { }, v -> x.group(v, -1, 1, 0), v -> ARGUMENT);
        dueEdges("group and no worths", 0, 3, INDEX, () -> { }, v -> x.group(v, 1, 1000, 0), v -> ARGUMENT);
        dueEdges("dialect and no people", 0, 2, INDEX, () -> { }, v -> x.group(0, 1000, 1, v), v -> ARGUMENT);
        dueEdges("dialect and no worths", 0, 2, INDEX, () -> { }, v -> x.group(0, 1, -1, v), v -> ARGUMENT);
        for (int people : new int[] {0, 999}) {
            begin("group, how many it had");
            for (int group = 0; group < 4; group++) {
                int g = group;
                due("at first", 0, () -> x.group(g, people, 0, 0));
                due("then", people, () -> x.group(g, 5, 0, 0));
                due("at last", 5, () -> x.group(g, 0, 0, 0));
            }
        }
    }

    // "worths: a number of up to three figures: the first worth times 100, the second one times 10, and the third one"
    private void groupFigures() {
        begin("group, figures of worths");
        x.change(1, VOWEL, 0, 1, false);
        addWord(30, vowel(0));
        addWord(50, vowel(0));
        addToneless(LETTERS, NONE);
        // The load is 30, 240 strokes are 2, and none of 80 fits dialect 1.
        int[][] worthsAndScore = {{0, 0}, {1, 80}, {9, 720}, {10, 2}, {11, 82}, {90, 18}, {99, 738}, {100, 30},
            {101, 110}, {110, 32}, {900, 270}, {909, 990}, {990, 288}, {999, 1008}};
        for (int[] pair : worthsAndScore) {
            x.group(3, 1, pair[0], 1);
            due("worths " + pair[0], pair[1], () -> x.score(3, 0));
        }
        x.group(3, 1, 999, 0);
        due("all fits dialect 0", 288, () -> x.score(3, 0));
        due("the other groups have 0", 0, () -> x.score(2, 0));
    }

    // "Throws IndexOutOfBoundsException if there is no such GROUP or DESIGN"
    private void scoreGroup() {
        begin("score, group");
        Runnable ready = () -> {
            addWord(100, vowel(0));
            addDesigns(1);
            x.group(0, 0, 10, 0);
            x.group(3, 0, 20, 0);
        };
        // 600 strokes
        dueEdges("group", 0, 3, INDEX, ready, v -> x.score(v, 0), v -> v == 0 ? 6 : 12);
        dueEdges("group, no design", 0, 3, INDEX, () -> { }, v -> x.score(v, 0), v -> INDEX);
    }

    // "Throws IllegalStateException if there is no DESIGN"
    private void electedOfNone() {
        begin("elected, no design");
        due("no people", STATE, () -> x.elected());
        for (int group = 0; group < 4; group++) {
            x.group(group, 999, 0, 0);
        }
        due("people", STATE, () -> x.elected());
        addWord(1, 0);
        due("words", STATE, () -> x.elected());
        due("a refused design", ARGUMENT, () -> x.design(2, 0));
        due("still none", STATE, () -> x.elected());
        x.design(LETTERS, NONE);
        due("one", 0, () -> x.elected());
    }

    // "Returns its number; NONE if there are no people."
    private void electedWithoutPeople() {
        for (int designs = 1; designs <= 5; designs++) {
            begin("elected, no people and " + designs + " designs");
            addDesigns(designs);
            due("none at first", NONE, () -> x.elected());
            for (int group = 0; group < 4; group++) {
                int g = group;
                x.group(g, 1, 0, 0);
                due("one of group " + g, 0, () -> x.elected());
                x.group(g, 0, 999, 2);
                due("none again", NONE, () -> x.elected());
            }
        }
    }
}
