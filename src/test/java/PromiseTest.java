/** Each promise of the document by examples that were worked out by hand: ordinary ones, edges, and wrong inputs. */
public final class PromiseTest extends Bench {
    private PromiseTest() {
        super("PromiseTest");
    }

    public static void main(String[] args) {
        new PromiseTest().test();
    }

    private void test() {
        newObject();
        syllable();
        word();
        change();
        spoken();
        spokenByOrderOfChanges();
        design();
        assign();
        mark();
        spelled();
        doubts();
        load();
        loadIf();
        readings();
        readingsOfShared();
        fit();
        shape();
        apart();
        clear();
        errors();
        primer();
        leastCost();
        key();
        travel();
        exchange();
        group();
        score();
        votes();
        elected();
        electedByRounds();
        reform();
        lost();
        nothingAtAll();
        asMuchAsThereIs();
        check.end();
    }

    /** Each call that needs a design, with a wrong number of it. */
    private void dueNoDesign(int design) {
        due("assign in no design " + design, INDEX, () -> x.assign(design, 0, 0, true));
        due("mark in no design " + design, INDEX, () -> x.mark(design, 0, true));
        due("spelled in no design " + design, INDEX, () -> x.spelled(design, 0, 0));
        due("doubts of no design " + design, INDEX, () -> x.doubts(design));
        due("load of no design " + design, INDEX, () -> x.load(design));
        due("loadIf of no design " + design, INDEX, () -> x.loadIf(design, 0));
        due("readings in no design " + design, INDEX, () -> x.readings(design, 0));
        due("readingsAnew in no design " + design, INDEX, () -> x.readingsAnew(design, 0));
        due("fit of no design " + design, INDEX, () -> x.fit(design, 0));
        due("clear of no design " + design, INDEX, () -> x.clear(design));
        due("errors of no design " + design, INDEX, () -> x.errors(design, 0));
        due("primer of no design " + design, INDEX, () -> x.primer(design, 0));
        due("cost of no design " + design, INDEX, () -> x.cost(design));
        due("leastCost of no design " + design, INDEX, () -> x.leastCost(design));
        due("key of no design " + design, INDEX, () -> x.key(design, 0, 0));
        due("travel of no design " + design, INDEX, () -> x.travel(design));
        due("exchange of no design " + design, INDEX, () -> x.exchange(design));
        due("score of no design " + design, INDEX, () -> x.score(0, design));
        due("votes of no design " + design, INDEX, () -> x.votes(design));
        due("reform from no design " + design, INDEX, () -> x.reform(design, 0));
        due("reform to no design " + design, INDEX, () -> x.reform(0, design));
        due("lost from no design " + design, INDEX, () -> x.lost(design, 0));
        due("lost to no design " + design, INDEX, () -> x.lost(0, design));
    }

    // Promise 1
    private void newObject() {
        begin("a new object");
        dueNoDesign(0);
        due("no word", INDEX, () -> x.spoken(NONE, 0, 0));
        due("an empty draft", STATE, () -> x.word(1));
        due("no design is elected", STATE, () -> x.elected());
        for (int dialect = 0; dialect < 3; dialect++) {
            int d = dialect;
            due("first change of " + d, 1, () -> x.change(d, ONSET, 0, 0, false));
        }
        due("the first word", 0, () -> addWord(1, 0));
        dueNoDesign(0);
        due("the first design", 0, () -> x.design(LETTERS, NONE));
        dueNoDesign(1);
        dueNoDesign(-1);
        dueNoDesign(5);
        dueNoDesign(HIGHEST);
        dueNoDesign(LOWEST);
        due("a second object has no design", STATE, () -> new Letterforge().elected());
    }

    // Promise 2
    private void syllable() {
        begin("syllable");
        due("below 0", ARGUMENT, () -> x.syllable(-1));
        due("above 971", ARGUMENT, () -> x.syllable(972));
        due("far below", ARGUMENT, () -> x.syllable(LOWEST));
        due("far above", ARGUMENT, () -> x.syllable(HIGHEST));
        due("the first", 1, () -> x.syllable(0));
        due("the second", 2, () -> x.syllable(971));
        due("the third", 3, () -> x.syllable(500));
        due("a wrong one", ARGUMENT, () -> x.syllable(972));
        due("the fourth", 4, () -> x.syllable(7));
        due("a fifth", STATE, () -> x.syllable(0));
        due("a wrong fifth", ARGUMENT, () -> x.syllable(-1));
        due("the word", 0, () -> x.word(1));
        int[] codes = {0, 971, 500, 7, NONE};
        for (int place = 0; place < codes.length; place++) {
            int at = place;
            due("at " + at, codes[at], () -> x.spoken(NONE, 0, at));
        }
    }

    // Promise 3
    private void word() {
        begin("word");
        due("empty draft", STATE, () -> x.word(1));
        due("empty draft, weight 0", ARGUMENT, () -> x.word(0));
        x.syllable(3);
        due("weight 0", ARGUMENT, () -> x.word(0));
        due("weight 1000", ARGUMENT, () -> x.word(1000));
        due("weight far below", ARGUMENT, () -> x.word(LOWEST));
        due("the draft stays", 2, () -> x.syllable(4));
        due("weight 999", 0, () -> x.word(999));
        due("the draft is empty then", STATE, () -> x.word(1));
        due("and begins anew", 1, () -> x.syllable(3));
        for (int word = 1; word < 20; word++) {
            int number = word;
            due("number", number, () -> x.word(1));
            x.syllable(3);
        }
        due("a twenty-first", STATE, () -> x.word(1));
        due("a twenty-first, weight 1000", ARGUMENT, () -> x.word(1000));
        due("the draft stays", 2, () -> x.syllable(3));
        due("word 19", 3, () -> x.spoken(NONE, 19, 0));
        due("word 20", INDEX, () -> x.spoken(NONE, 20, 0));
    }

    // Promise 4
    private void change() {
        begin("change");
        due("dialect 3", INDEX, () -> x.change(3, ONSET, 0, 0, true));
        due("dialect -1", INDEX, () -> x.change(NONE, ONSET, 0, 0, true));
        due("part -1", INDEX, () -> x.change(0, -1, 0, 0, true));
        due("part 4", INDEX, () -> x.change(0, 4, 0, 0, true));
        due("no part and no value", INDEX, () -> x.change(0, 4, -1, 0, true));
        due("no dialect and no value", INDEX, () -> x.change(3, VOWEL, -1, 0, true));
        int[] most = {8, 3, 8, 2};
        for (int part = ONSET; part <= TONE; part++) {
            int p = part;
            begin("change of part " + p);
            due("from below", ARGUMENT, () -> x.change(0, p, -1, 0, true));
            due("from above", ARGUMENT, () -> x.change(0, p, most[p] + 1, 0, true));
            due("to below", ARGUMENT, () -> x.change(0, p, 0, -1, true));
            due("to above", ARGUMENT, () -> x.change(0, p, 0, most[p] + 1, true));
            due("to far above", ARGUMENT, () -> x.change(0, p, 0, HIGHEST, true));
            due("greatest", 1, () -> x.change(0, p, most[p], 0, true));
            due("to greatest", 2, () -> x.change(0, p, 0, most[p], false));
            due("the same", 3, () -> x.change(0, p, 1, 1, false));
        }
        for (int number = 4; number <= 6; number++) {
            int n = number;
            due("number", n, () -> x.change(0, TONE, 0, 1, true));
        }
        due("a seventh", STATE, () -> x.change(0, TONE, 0, 1, true));
        due("a wrong seventh", ARGUMENT, () -> x.change(0, TONE, 0, 3, true));
        due("another dialect", 1, () -> x.change(2, TONE, 0, 1, true));
    }

    // Promise 5
    private void spoken() {
        begin("spoken");
        addWord(1, code(2, 1, 8, 0), code(8, 1, 5, 2), code(2, 3, 5, 0));
        x.change(0, VOWEL, 1, 0, false);
        x.change(1, CODA, 5, 8, true);
        x.change(2, ONSET, 8, 7, false);
        x.change(2, TONE, 0, 2, true);
        int[][] want = {
            {code(2, 1, 8, 0), code(8, 1, 5, 2), code(2, 3, 5, 0)},
            {code(2, 0, 8, 0), code(8, 0, 5, 2), code(2, 3, 5, 0)},
            {code(2, 1, 8, 0), code(8, 1, 5, 2), code(2, 3, 8, 0)},
            {code(2, 1, 8, 0), code(7, 1, 5, 2), code(2, 3, 5, 2)},
        };
        for (int dialect = NONE; dialect < 3; dialect++) {
            for (int place = 0; place < 3; place++) {
                int d = dialect;
                int p = place;
                due("by " + d + " at " + p, want[d + 1][p], () -> x.spoken(d, 0, p));
            }
        }
        due("behind the last one", NONE, () -> x.spoken(0, 0, 3));
        due("far behind", NONE, () -> x.spoken(NONE, 0, HIGHEST));
        due("place -1", INDEX, () -> x.spoken(0, 0, -1));
        due("place far below", INDEX, () -> x.spoken(0, 0, LOWEST));
        due("dialect 3", INDEX, () -> x.spoken(3, 0, 0));
        due("dialect -2", INDEX, () -> x.spoken(-2, 0, 0));
        due("word 1", INDEX, () -> x.spoken(NONE, 1, 0));
        due("word -1", INDEX, () -> x.spoken(NONE, -1, 0));
    }

    private void spokenByOrderOfChanges() {
        begin("spoken, one change behind the other");
        addWord(1, vowel(0));
        x.change(0, VOWEL, 0, 1, false);
        x.change(0, VOWEL, 1, 2, true);
        x.change(1, VOWEL, 1, 2, true);
        x.change(1, VOWEL, 0, 1, false);
        addWord(1, vowel(0), vowel(0));
        due("0 by 1 to 2", vowel(2), () -> x.spoken(0, 0, 0));
        due("0 to 1 when 1 to 2 is over", vowel(1), () -> x.spoken(1, 0, 0));
        due("not final, a later word", vowel(1), () -> x.spoken(0, 1, 0));
        due("final, a later word", vowel(2), () -> x.spoken(0, 1, 1));
        due("final too early", vowel(1), () -> x.spoken(1, 1, 1));
        due("the word as it is", vowel(0), () -> x.spoken(NONE, 1, 1));
    }

    // Promise 6
    private void design() {
        begin("design");
        due("kind 2", ARGUMENT, () -> x.design(2, 0));
        due("kind -1", ARGUMENT, () -> x.design(-1, 0));
        due("base 3", ARGUMENT, () -> x.design(LETTERS, 3));
        due("base -2", ARGUMENT, () -> x.design(PAIRS, -2));
        int[] bases = {NONE, 2, 1, 0, NONE};
        for (int number = 0; number < 5; number++) {
            int n = number;
            due("number", n, () -> x.design(n % 2, bases[n]));
        }
        due("a sixth", STATE, () -> x.design(LETTERS, NONE));
        due("a wrong sixth", ARGUMENT, () -> x.design(LETTERS, 3));
        due("another wrong sixth", ARGUMENT, () -> x.design(5, 0));
        dueNoDesign(5);
        due("letters have no unit 12", INDEX, () -> x.assign(4, 12, 12, false));
        due("pairs have it", 12, () -> x.assign(3, 12, 12, false));
    }

    // Promise 7
    private void assign() {
        begin("assign");
        addWord(1, code(3, 2, 3, 1));
        x.design(LETTERS, NONE);
        x.design(PAIRS, NONE);
        int[] none = {-1, 12, 43, 47, HIGHEST, LOWEST};
        for (int unit : none) {
            due("no letter " + unit, INDEX, () -> x.assign(0, unit, 0, true));
        }
        due("no letter 20, no sign", INDEX, () -> x.assign(0, 20, 50, true));
        due("no pair -1", INDEX, () -> x.assign(1, -1, 0, true));
        due("no pair 47", INDEX, () -> x.assign(1, 47, 0, true));
        for (int unit = 0; unit < 47; unit++) {
            int u = unit;
            boolean isLetter = u < 12 || u > 43;
            due("letter " + u, isLetter ? u : INDEX, () -> x.assign(0, u, u, false));
            due("pair " + u, u, () -> x.assign(1, u, u, false));
        }
        due("sign 50", ARGUMENT, () -> x.assign(0, 0, 50, true));
        due("sign -1", ARGUMENT, () -> x.assign(0, 0, -1, false));
        due("another has it", STATE, () -> x.assign(0, 3, 11, false));
        due("a mark has it", STATE, () -> x.assign(0, 3, 46, false));
        x.mark(0, 2, false);
        due("a mark that is not marked has it", STATE, () -> x.assign(0, 3, 46, false));
        due("no unit of letters has 20", 3, () -> x.assign(0, 3, 20, false));
        dueSpelling(0, 0, 20, 10, 45, 20);
        due("its own one again", 20, () -> x.assign(0, 3, 20, false));
        due("shared", 45, () -> x.assign(0, 45, 20, true));
        dueSpelling(0, 0, 20, 10, 20, 20);
        due("its own one, which is shared", STATE, () -> x.assign(0, 45, 20, false));
        due("sign 45 is free then", 10, () -> x.assign(0, 10, 45, false));
        dueSpelling(0, 0, 20, 45, 20, 20);
        dueSpelling(1, 0, 14, 45, 39);
        due("a pair", 14, () -> x.assign(1, 14, 49, false));
        due("a coda", 39, () -> x.assign(1, 39, 48, false));
        dueSpelling(1, 0, 49, 45, 48);
    }

    // Promise 8
    private void mark() {
        begin("mark");
        addWord(1, code(8, 0, 8, 0), code(8, 0, 8, 1), code(8, 0, 8, 2));
        x.design(LETTERS, NONE);
        x.design(LETTERS, NONE);
        dueSpelling(0, 0, 8, 44, 8, 45, 8, 46);
        due("it was", true, () -> x.mark(0, 1, false));
        dueSpelling(0, 0, 8, 44, 8, 8, 46);
        due("it was not", false, () -> x.mark(0, 1, false));
        due("it was not yet", false, () -> x.mark(0, 1, true));
        due("it was again", true, () -> x.mark(0, 1, true));
        due("the last one", true, () -> x.mark(0, 2, false));
        due("the first one", true, () -> x.mark(0, 0, false));
        dueSpelling(0, 0, 8, 8, 45, 8);
        dueSpelling(1, 0, 8, 44, 8, 45, 8, 46);
        due("tone 3", INDEX, () -> x.mark(0, 3, true));
        due("tone -1", INDEX, () -> x.mark(0, -1, true));
    }

    // Promise 9
    private void spelled() {
        begin("spelled");
        addWord(1, code(2, 1, 0, 0), code(8, 1, 7, 2));
        addWord(1, code(8, 3, 8, 1));
        x.design(LETTERS, NONE);
        x.design(PAIRS, NONE);
        x.design(LETTERS, 1);
        x.design(PAIRS, 1);
        dueSpelling(0, 0, 2, 9, 44, 0, 9, 46, 7);
        dueSpelling(1, 0, 9, 44, 36, 33, 46, 43);
        dueSpelling(2, 0, 2, 9, 44, 0, 9, 46, 7);
        x.change(1, CODA, 7, 8, false);
        x.change(1, VOWEL, 1, 3, true);
        dueSpelling(0, 0, 2, 9, 44, 0, 9, 46, 7);
        dueSpelling(2, 0, 2, 9, 44, 0, 11, 46);
        dueSpelling(3, 0, 9, 44, 36, 35, 46);
        dueSpelling(0, 1, 11, 45);
        dueSpelling(1, 1, 35, 45);
        due("far behind", NONE, () -> x.spelled(0, 0, HIGHEST));
        due("place -1", INDEX, () -> x.spelled(0, 0, -1));
        due("word 2", INDEX, () -> x.spelled(0, 2, 0));
        due("word -1", INDEX, () -> x.spelled(0, -1, 0));
        due("the longest word", 2, () -> addWord(1, 0, 0, 0, 0));
        dueSpelling(0, 2, 0, 8, 44, 0, 0, 8, 44, 0, 0, 8, 44, 0, 0, 8, 44, 0);
    }

    // Promise 10
    private void doubts() {
        begin("doubts");
        x.design(LETTERS, NONE);
        due("without words", 0, () -> x.doubts(0));
        addWord(5, code(0, 0, 8, 0));
        addWord(5, code(0, 0, 8, 1));
        addWord(5, code(0, 0, 8, 2));
        addWord(5, code(1, 0, 8, 0));
        addWord(5, code(1, 0, 8, 0));
        due("the same row twice", 1, () -> x.doubts(0));
        x.mark(0, 0, false);
        due("one tone unmarked", 1, () -> x.doubts(0));
        x.mark(0, 1, false);
        due("two tones unmarked", 2, () -> x.doubts(0));
        x.mark(0, 2, false);
        due("three alike are three pairs", 4, () -> x.doubts(0));
        x.assign(0, 1, 0, true);
        due("five alike are ten pairs", 10, () -> x.doubts(0));
    }

    // Promise 11
    private void load() {
        begin("load");
        x.design(LETTERS, NONE);
        due("without words", 0, () -> x.load(0));
        addWord(5, code(0, 0, 8, 0));
        addWord(9, code(0, 0, 8, 1));
        addWord(7, code(0, 0, 8, 2));
        addWord(4, code(1, 0, 8, 0));
        addWord(4, code(1, 0, 8, 0));
        addWord(900, code(2, 0, 8, 0));
        due("two as heavy", 4, () -> x.load(0));
        x.mark(0, 0, false);
        x.mark(0, 1, false);
        due("5 is less than 9", 9, () -> x.load(0));
        x.mark(0, 2, false);
        due("5 and 7 are less than 9", 16, () -> x.load(0));
        x.change(0, ONSET, 2, 0, false);
        x.design(LETTERS, 0);
        due("as dialect 0 speaks, 5 and 900 are alike", 9, () -> x.load(1));
        x.mark(1, 1, false);
        x.mark(1, 0, false);
        due("900 is the greatest", 18, () -> x.load(1));
    }

    // Promise 12
    private void loadIf() {
        begin("loadIf");
        x.design(LETTERS, NONE);
        addWord(5, code(0, 0, 8, 0));
        addWord(9, code(0, 0, 8, 1));
        addWord(7, code(0, 0, 8, 2));
        due("one unmarked", 0, () -> x.loadIf(0, 0));
        x.mark(0, 0, false);
        due("a second one unmarked", 5, () -> x.loadIf(0, 1));
        due("another second one", 5, () -> x.loadIf(0, 2));
        due("marked again", 0, () -> x.loadIf(0, 0));
        x.mark(0, 1, false);
        due("all unmarked", 12, () -> x.loadIf(0, 2));
        due("one of two marked", 0, () -> x.loadIf(0, 0));
        due("the load itself", 5, () -> x.load(0));
        due("0 stays unmarked", false, () -> x.mark(0, 0, false));
        due("2 stays marked", true, () -> x.mark(0, 2, true));
        due("tone 3", INDEX, () -> x.loadIf(0, 3));
        due("tone -1", INDEX, () -> x.loadIf(0, -1));
    }

    // Promises 13 and 14
    private void readings() {
        begin("readings");
        x.design(LETTERS, NONE);
        x.design(PAIRS, NONE);
        addWord(1, code(2, 1, 0, 0), code(8, 1, 0, 0));
        addWord(1, code(0, 0, 8, 0));
        dueReadings("the coda may be an onset", 0, 0, 2);
        x.mark(0, 0, false);
        dueReadings("one tone, no doubt of it", 0, 0, 2);
        dueReadings("one tone is unmarked", 0, 1, 1);
        x.mark(0, 1, false);
        dueReadings("two tones, two rows", 0, 0, 8);
        dueReadings("pairs have codas of their own", 1, 0, 1);
        x.mark(1, 1, false);
        x.mark(1, 2, false);
        dueReadings("tone 0 is told", 1, 0, 1);
        x.change(0, VOWEL, 1, 0, false);
        x.design(LETTERS, 0);
        // As the base speaks, rows with vowel 1 would give the spelling, too.
        dueReadings("as they are, whatever the base is", 2, 0, 2);
        due("word 2", INDEX, () -> x.readings(0, 2));
        due("word -1", INDEX, () -> x.readings(0, -1));
        due("word 2, anew", INDEX, () -> x.readingsAnew(0, 2));
        due("word -1, anew", INDEX, () -> x.readingsAnew(0, -1));
    }

    private void readingsOfShared() {
        begin("readings of shared signs");
        addWord(1, vowel(2));
        addWord(1, code(4, 2, 8, 0));
        addWord(1, vowel(1), vowel(1), vowel(1), vowel(1));
        addWord(1, 0, 0, 0, 0);
        addToneless(LETTERS, NONE);
        addToneless(PAIRS, NONE);
        x.design(PAIRS, NONE);
        giveAll(0, LETTERS, 7);
        giveAll(1, PAIRS, 7);
        giveAll(2, PAIRS, 7);
        dueReadings("4 vowels, 3 tones", 0, 0, 12);
        dueReadings("96 with an onset, 96 with a coda, 144 of two", 0, 1, 336);
        dueReadings("36 pairs, 3 tones", 1, 0, 108);
        // Four signs in rows of two with codas, of three with one coda, and of four.
        dueReadings("rows of 2, 3 and 4", 1, 2, 864L * 864 + 3 * 108L * 108 * 864 + 108L * 108 * 108 * 108);
        dueReadings("four pairs with codas", 1, 3, 864L * 864 * 864 * 864);
        dueReadings("a pair and a mark", 2, 0, 108);
        // Eight signs: two of 3 and one of 2, or four of 2.
        dueReadings("eight signs", 2, 2, 3 * 864L * 864 * 108 + 108L * 108 * 108 * 108);
    }

    // Promise 15
    private void fit() {
        begin("fit");
        addWord(3, vowel(0));
        addWord(50, vowel(1));
        addWord(700, code(8, 2, 8, 1));
        x.change(0, VOWEL, 0, 1, false);
        x.change(1, TONE, 1, 2, false);
        x.design(LETTERS, NONE);
        x.design(LETTERS, 0);
        due("but vowel 0", 750, () -> x.fit(0, 0));
        due("but tone 1", 53, () -> x.fit(0, 1));
        due("no changes", 753, () -> x.fit(0, 2));
        due("to its base", 753, () -> x.fit(1, 0));
        due("base and dialect unlike", 50, () -> x.fit(1, 1));
        due("to a dialect without changes", 750, () -> x.fit(1, 2));
        x.assign(0, 9, 8, true);
        due("spelled alike", 753, () -> x.fit(0, 0));
        x.mark(0, 1, false);
        due("marked there, not here", 53, () -> x.fit(0, 1));
        x.mark(0, 2, false);
        due("neither is marked", 753, () -> x.fit(0, 1));
        due("dialect -1", INDEX, () -> x.fit(0, NONE));
        due("dialect 3", INDEX, () -> x.fit(0, 3));
    }

    // Promise 16
    private void shape() {
        begin("shape");
        for (int sign = 0; sign < 50; sign++) {
            int s = sign;
            int first = Integer.parseInt("" + (s / 16 + 1) + (s / 4 % 4 + 1) + (s % 4 + 1));
            due("at first, " + s, first, () -> x.shape(s, 4444));
        }
        int[] good = {1, 4, 11, 41, 44, 111, 234, 444, 1111, 4321};
        int before = 4444;
        for (int shape : good) {
            due("before " + shape, before, () -> x.shape(49, shape));
            before = shape;
        }
        int[] bad = {0, -1, -11, 5, 9, 10, 15, 40, 50, 51, 101, 110, 411 + 100, 445, 1011, 1115, 5111, 10000, 11111,
            44440, HIGHEST, LOWEST};
        for (int shape : bad) {
            due("none, " + shape, ARGUMENT, () -> x.shape(49, shape));
        }
        due("unchanged", 4321, () -> x.shape(49, 1));
        due("sign 50", INDEX, () -> x.shape(50, 1));
        due("sign -1", INDEX, () -> x.shape(-1, 1));
        due("no sign and no shape", INDEX, () -> x.shape(50, 0));
    }

    private void dueApart(int shape, int other, int want) {
        x.shape(3, shape);
        x.shape(40, other);
        due(shape + " and " + other, want, () -> x.apart(3, 40));
        due(other + " and " + shape, want, () -> x.apart(40, 3));
    }

    // Promise 17
    private void apart() {
        begin("apart");
        due("at first 111 and 412", 2, () -> x.apart(0, 49));
        due("itself", 0, () -> x.apart(7, 7));
        dueApart(1, 1, 0);
        dueApart(1, 2, 1);
        dueApart(1234, 234, 1);
        dueApart(1234, 1134, 1);
        dueApart(1234, 2341, 2);
        dueApart(1212, 2121, 2);
        dueApart(1111, 2222, 4);
        dueApart(1111, 2, 4);
        dueApart(1111, 1, 3);
        dueApart(12, 21, 2);
        dueApart(123, 4123, 1);
        dueApart(1423, 123, 1);
        due("sign 50", INDEX, () -> x.apart(50, 0));
        due("other 50", INDEX, () -> x.apart(0, 50));
        due("sign -1", INDEX, () -> x.apart(-1, 0));
        due("other -1", INDEX, () -> x.apart(0, -1));
    }

    // Promise 18
    private void clear() {
        begin("clear");
        x.design(LETTERS, NONE);
        due("at first", 1, () -> x.clear(0));
        giveAll(0, LETTERS, 20);
        due("one sign", NONE, () -> x.clear(0));
        x.shape(20, 1111);
        x.shape(21, 2222);
        x.shape(22, 2211);
        x.assign(0, 46, 21, true);
        due("a mark", 4, () -> x.clear(0));
        x.mark(0, 2, false);
        due("a mark that is not marked", 4, () -> x.clear(0));
        x.assign(0, 0, 22, true);
        due("three signs", 2, () -> x.clear(0));
        x.shape(30, 1111);
        due("a sign that no unit has", 2, () -> x.clear(0));
        x.shape(22, 1111);
        due("the same shape", 0, () -> x.clear(0));
    }

    // Promise 19
    private void errors() {
        begin("errors");
        x.design(LETTERS, NONE);
        giveAll(0, LETTERS, 20);
        // Spelled by 20, 21, 20: the vowel has another sign than the consonants.
        x.mark(0, 0, false);
        x.assign(0, 8, 21, true);
        x.shape(20, 1111);
        x.shape(21, 2211);
        due("without words", 0, () -> x.errors(0, 4));
        addWord(10, code(0, 0, 0, 0));
        due("2 apart, 1 told", 0, () -> x.errors(0, 1));
        due("2 apart, 2 told", 30, () -> x.errors(0, 2));
        x.assign(0, 44, 22, true);
        x.shape(22, 2212);
        due("a sign that is not in use is near to one place", 10, () -> x.errors(0, 1));
        due("each place counts once", 30, () -> x.errors(0, 4));
        due("none has the same shape", 0, () -> x.errors(0, 0));
        x.shape(22, 1111);
        due("two places have the same shape", 20, () -> x.errors(0, 0));
        x.shape(23, 2211);
        due("a sign that no unit has", 20, () -> x.errors(0, 0));
        addWord(300, code(8, 1, 8, 0));
        due("by weight", 320, () -> x.errors(0, 0));
        due("far -1", ARGUMENT, () -> x.errors(0, -1));
        due("far 5", ARGUMENT, () -> x.errors(0, 5));
        due("no design, far 5", INDEX, () -> x.errors(1, 5));
    }

    // Promises 20 and 21
    private void primer() {
        begin("primer");
        addToneless(LETTERS, NONE);
        due("cost without words", 0, () -> x.cost(0));
        duePrimer(0);
        addWord(1, code(8, 0, 8, 0));
        addWord(10, code(0, 1, 8, 0));
        addWord(10, code(1, 1, 8, 0));
        duePrimer(0, 8, 9, 0, 1);
        due("cost", 1 + 30 + 40, () -> x.cost(0));
        addWord(11, code(8, 1, 1, 0));
        duePrimer(0, 8, 9, 1, 0);
        due("another cost", 1 + 40 + 30 + 33, () -> x.cost(0));
        due("far behind", NONE, () -> x.primer(0, HIGHEST));
        due("place -1", INDEX, () -> x.primer(0, -1));
        begin("primer, words that were read do not count");
        addToneless(LETTERS, NONE);
        addWord(900, code(8, 3, 8, 0));
        addWord(500, code(8, 3, 8, 0), code(8, 2, 8, 0));
        addWord(30, code(5, 3, 6, 0));
        addWord(20, code(7, 2, 6, 0));
        // 11 and 10 read 900 and 500; then 5, 6 and 7 read none alone, and 6 has 50 that are left.
        duePrimer(0, 11, 10, 6, 5, 7);
        due("cost", 900 + 1000 + 30 * 4 + 20 * 5, () -> x.cost(0));
        begin("primer, of several the lowest");
        x.design(PAIRS, NONE);
        addWord(7, code(4, 3, 2, 1));
        duePrimer(0, 19, 38, 45);
    }

    // Promise 22
    private void leastCost() {
        begin("leastCost");
        addToneless(LETTERS, NONE);
        due("without words", 0, () -> x.leastCost(0));
        addWord(1, code(8, 0, 8, 0));
        addWord(10, code(0, 1, 8, 0));
        addWord(10, code(1, 1, 8, 0));
        due("9, 0, 1 and 8", 20 + 30 + 4, () -> x.leastCost(0));
        addWord(5, code(2, 2, 3, 0), code(4, 2, 5, 0));
        // The five signs of the last word follow on the four others.
        due("9 signs", 54 + 5 * 9, () -> x.leastCost(0));
        addWord(1, code(6, 2, 8, 0));
        due("10 signs", 54 + 5 * 9 + 10, () -> x.leastCost(0));
        addWord(1, code(7, 2, 8, 0));
        due("11 signs", STATE, () -> x.leastCost(0));
        due("no design", INDEX, () -> x.leastCost(1));
        x.assign(0, 7, 6, true);
        // 9, 0, 1, 10 and 6, then the four others of the word with 5, and 8 last.
        due("shared, 10 signs", 20 + 30 + 2 * 5 + 5 * 9 + 10, () -> x.leastCost(0));
        x.mark(0, 0, true);
        due("a mark is a sign in use", STATE, () -> x.leastCost(0));
    }

    // Promise 23
    private void key() {
        begin("key");
        x.design(LETTERS, NONE);
        x.design(LETTERS, NONE);
        due("at first", 4, () -> x.key(0, 4, 10));
        due("the other one came there", 4, () -> x.key(0, 10, 4));
        due("the same key", 10, () -> x.key(0, 4, 10));
        due("the edges", 0, () -> x.key(0, 0, 49));
        due("49 is on 0", 0, () -> x.key(0, 49, 20));
        due("20 came to 0", 0, () -> x.key(0, 20, 0));
        due("0 is on 49", 49, () -> x.key(0, 0, 0));
        due("another design", 4, () -> x.key(1, 4, 4));
        due("sign 50", INDEX, () -> x.key(0, 50, 0));
        due("sign -1", INDEX, () -> x.key(0, -1, 0));
        due("key 50", INDEX, () -> x.key(0, 0, 50));
        due("key -1", INDEX, () -> x.key(0, 0, -1));
        due("20 came to where 0 was", 49, () -> x.key(0, 20, 49));
    }

    // Promise 24
    private void travel() {
        begin("travel");
        addToneless(LETTERS, NONE);
        due("without words", 0, () -> x.travel(0));
        addWord(100, code(8, 0, 8, 0));
        due("one sign", 0, () -> x.travel(0));
        addWord(10, code(0, 0, 1, 0));
        due("0, 8, 1", 150, () -> x.travel(0));
        addWord(1, code(8, 3, 8, 0), code(8, 3, 8, 0), code(8, 0, 8, 0));
        due("11, 11, 8", 153, () -> x.travel(0));
        x.key(0, 8, 49);
        due("8 on key 49", 490 + 480 + 38, () -> x.travel(0));
        x.mark(0, 0, true);
        x.key(0, 44, 0);
        // Then 0 is on 44: 44, 49, 0, 1 for the second word, and 11, 0, 11, 0, 49, 0 for the third.
        due("with marks", 4900 + 10 * (5 + 49 + 1) + 11 * 3 + 49 * 2, () -> x.travel(0));
    }

    // Promise 25
    private void exchange() {
        begin("exchange");
        addToneless(LETTERS, NONE);
        due("without words", NONE, () -> x.exchange(0));
        addWord(1, code(0, 0, 8, 0));
        due("two signs", NONE, () -> x.exchange(0));
        addWord(1, code(0, 0, 1, 0));
        // 0, 8, 1 travel 8 and 7; with 8 on key 1 it is 1 and 7, and 0, 8 travel 1.
        due("1 and 8", 108, () -> x.exchange(0));
        due("changes nothing", 23, () -> x.travel(0));
        x.key(0, 1, 8);
        due("behind it", 9, () -> x.travel(0));
        begin("exchange, of several the lowest");
        addToneless(LETTERS, NONE);
        addWord(1, code(0, 0, 1, 0));
        addWord(1, code(2, 1, 3, 0));
        int[][] keys = {{8, 0}, {0, 8}, {1, 18}, {9, 20}, {2, 28}, {3, 38}};
        for (int[] key : keys) {
            x.key(0, key[0], key[1]);
        }
        due("travel", 8 + 18 + 8 + 18, () -> x.travel(0));
        due("0 and 8 before 2 and 9", 8, () -> x.exchange(0));
        x.key(0, 0, 0);
        due("then 2 and 9", 209, () -> x.exchange(0));
        x.key(0, 2, 20);
        due("then none", NONE, () -> x.exchange(0));
    }

    // Promise 26
    private void group() {
        begin("group");
        due("at first", 0, () -> x.group(0, 999, 999, 2));
        due("999 people", 999, () -> x.group(0, 7, 0, 0));
        due("group 3", 0, () -> x.group(3, 1, 0, 0));
        due("group 4", INDEX, () -> x.group(4, 1, 0, 0));
        due("group -1", INDEX, () -> x.group(-1, 1, 0, 0));
        due("dialect 3", INDEX, () -> x.group(0, 1, 0, 3));
        due("dialect -1", INDEX, () -> x.group(0, 1, 0, NONE));
        due("no dialect and no people", INDEX, () -> x.group(0, 1000, 1000, 3));
        due("people 1000", ARGUMENT, () -> x.group(0, 1000, 0, 0));
        due("people -1", ARGUMENT, () -> x.group(0, -1, 0, 0));
        due("worths 1000", ARGUMENT, () -> x.group(0, 1, 1000, 0));
        due("worths -1", ARGUMENT, () -> x.group(0, 1, -1, 0));
        due("unchanged", 7, () -> x.group(0, 0, 0, 0));
        due("another one", 1, () -> x.group(3, 0, 0, 0));
    }

    // Promise 27
    private void score() {
        begin("score");
        addToneless(LETTERS, NONE);
        x.change(0, VOWEL, 0, 1, false);
        due("without words", 0, () -> x.score(0, 0));
        addWord(30, vowel(0));
        addWord(50, vowel(0));
        x.group(1, 0, 153, 0);
        due("worths of 0", 0, () -> x.score(0, 0));
        // The load is 30, there are 240 strokes, and none of 80 fits.
        due("30 and 2 times 5 and 3 times 80", 280, () -> x.score(1, 0));
        x.group(1, 0, 153, 1);
        due("all fits", 40, () -> x.score(1, 0));
        x.shape(8, 1234);
        due("320 strokes", 45, () -> x.score(1, 0));
        x.group(1, 0, 9, 0);
        due("the third worth", 720, () -> x.score(1, 0));
        x.group(1, 0, 90, 0);
        due("the second worth", 27, () -> x.score(1, 0));
        x.group(1, 0, 900, 0);
        due("the first worth", 270, () -> x.score(1, 0));
        due("group 4", INDEX, () -> x.score(4, 0));
        due("group -1", INDEX, () -> x.score(-1, 0));
    }

    /** One word that each dialect speaks in its own way, and groups that just want their dialect. */
    private void prepareVotes(int... people) {
        addWord(100, vowel(0));
        for (int dialect = 0; dialect < 3; dialect++) {
            x.change(dialect, VOWEL, 0, dialect + 1, false);
            x.group(dialect, people[dialect], 1, dialect);
        }
    }

    // Promise 28
    private void votes() {
        begin("votes");
        prepareVotes(40, 35, 25);
        x.design(LETTERS, NONE);
        due("one design has all", 100, () -> x.votes(0));
        x.design(LETTERS, 2);
        x.design(LETTERS, 0);
        due("group 1 has a tie", 35, () -> x.votes(0));
        due("group 2", 25, () -> x.votes(1));
        due("group 0", 40, () -> x.votes(2));
        x.group(3, 7, 0, 0);
        due("all scores 0, the lowest", 42, () -> x.votes(0));
        x.design(PAIRS, 0);
        due("as good, but higher", 0, () -> x.votes(3));
    }

    // Promise 29
    private void elected() {
        begin("elected");
        due("no design", STATE, () -> x.elected());
        x.group(0, 10, 0, 0);
        due("people, no design", STATE, () -> x.elected());
        x.group(0, 0, 0, 0);
        x.design(LETTERS, NONE);
        due("no people", NONE, () -> x.elected());
        x.group(2, 1, 0, 0);
        due("one for the only one", 0, () -> x.elected());
        begin("elected at once");
        prepareVotes(10, 20, 31);
        x.design(LETTERS, 0);
        x.design(LETTERS, 1);
        x.design(LETTERS, 2);
        due("31 of 61", 2, () -> x.elected());
        x.group(2, 30, 1, 2);
        // 30 of 60 is not more than half: 0 is left out, and its people are for the lowest one.
        due("30 of 60", 1, () -> x.elected());
    }

    private void electedByRounds() {
        begin("elected by rounds");
        prepareVotes(40, 35, 25);
        x.design(LETTERS, 1);
        x.design(LETTERS, 0);
        x.design(LETTERS, 2);
        due("25 go to the lowest one", 0, () -> x.elected());
        x.design(LETTERS, NONE);
        due("one without people", 0, () -> x.elected());
        x.group(0, 25, 1, 0);
        x.group(1, 25, 1, 1);
        x.group(2, 30, 1, 2);
        // Of 1, 0 and 2 with 25, 25 and 30 the second one goes, and the first one has 50 of 80.
        due("of several the highest goes", 0, () -> x.elected());
        x.group(0, 50, 1, 0);
        x.group(1, 0, 1, 1);
        x.group(2, 50, 1, 2);
        // 0 people for the designs 3 and 0: 3 goes, then 0, then of two with 50 the design 2.
        due("half and half", 1, () -> x.elected());
    }

    // Promise 30
    private void reform() {
        begin("reform");
        x.design(LETTERS, NONE);
        x.design(LETTERS, NONE);
        x.design(PAIRS, NONE);
        due("without words", 0, () -> x.reform(0, 1));
        addWord(10, code(0, 0, 1, 0));
        addWord(1, code(8, 1, 8, 2), code(8, 2, 8, 2));
        due("the same", 0, () -> x.reform(0, 1));
        x.mark(1, 0, false);
        due("one taken out", 10, () -> x.reform(0, 1));
        due("one put in", 10, () -> x.reform(1, 0));
        x.assign(1, 46, 30, false);
        due("two made another one", 12, () -> x.reform(0, 1));
        // 0 8 44 1 and 0 44 37; 9 46 10 46 and 33 46 34 46.
        due("letters to pairs", 10 * 2 + 2, () -> x.reform(0, 2));
        due("to itself", 0, () -> x.reform(2, 2));
        x.change(0, VOWEL, 2, 1, true);
        x.design(LETTERS, 0);
        due("as a dialect speaks", 1, () -> x.reform(0, 3));
        begin("reform, a shift");
        addWord(7, code(0, 0, 8, 0), code(1, 1, 8, 0));
        addToneless(LETTERS, NONE);
        addToneless(LETTERS, NONE);
        x.assign(1, 0, 8, true);
        x.assign(1, 8, 1, true);
        x.assign(1, 1, 9, true);
        x.assign(1, 9, 20, true);
        // 0 8 1 9 and 8 1 9 20.
        due("one out, one in", 14, () -> x.reform(0, 1));
    }

    // Promise 31
    private void lost() {
        begin("lost");
        x.design(LETTERS, NONE);
        x.design(LETTERS, NONE);
        due("without words", 0, () -> x.lost(0, 1));
        addWord(1, code(0, 0, 8, 0));
        addWord(20, code(0, 0, 8, 1));
        addWord(300, code(0, 0, 8, 1));
        addWord(500, code(1, 0, 8, 0));
        due("the same", 0, () -> x.lost(0, 1));
        x.mark(1, 0, false);
        x.mark(1, 1, false);
        due("more doubts lose nothing", 0, () -> x.lost(0, 1));
        due("each once, and those alike stay", 321, () -> x.lost(1, 0));
        due("to itself", 0, () -> x.lost(1, 1));
        x.assign(1, 1, 0, true);
        due("all four", 821, () -> x.lost(1, 0));
        x.change(0, ONSET, 1, 0, false);
        x.design(LETTERS, 0);
        due("as a dialect speaks", 501, () -> x.lost(2, 0));
    }

    /** A design that was never asked about words answers without them. */
    private void nothingAtAll() {
        begin("a design without words");
        x.design(PAIRS, 2);
        due("fit", 0, () -> x.fit(0, 0));
        due("clear", 1, () -> x.clear(0));
        due("errors", 0, () -> x.errors(0, 4));
        due("primer", NONE, () -> x.primer(0, 0));
        due("leastCost", 0, () -> x.leastCost(0));
        due("reform", 0, () -> x.reform(0, 0));
        due("lost", 0, () -> x.lost(0, 0));
        due("votes", 0, () -> x.votes(0));
        due("elected", NONE, () -> x.elected());
    }

    /** 20 words of 16 signs with the greatest weight; every call as the first one of its kind. */
    private void asMuchAsThereIs() {
        begin("as much as there is");
        for (int word = 0; word < 20; word++) {
            addWord(999, 0, 0, 0, 0);
        }
        for (int design = 0; design < 5; design++) {
            x.design(design < 4 ? LETTERS : PAIRS, design - 1 < 3 ? design - 1 : NONE);
        }
        for (int change = 0; change < 6; change++) {
            x.change(2, TONE, 0, 0, false);
        }
        for (int group = 0; group < 4; group++) {
            x.group(group, 999, 999, 0);
        }
        int all = 20 * 999;
        due("lost", 0, () -> x.lost(0, 4));
        due("cost", all * 3, () -> x.cost(3));
        due("cost of pairs", all * 3, () -> x.cost(4));
        due("leastCost", all * 3, () -> x.leastCost(3));
        due("doubts", 190, () -> x.doubts(0));
        due("load", all - 999, () -> x.load(4));
        due("loadIf", all - 999, () -> x.loadIf(4, 0));
        due("fit", all, () -> x.fit(0, 2));
        due("errors", all * 16, () -> x.errors(0, 4));
        due("travel", all * 4 * (8 + 36 + 44), () -> x.travel(0));
        due("exchange", NONE, () -> x.exchange(0));
        // Of 16 signs 4 are taken out, and 4 are made a sign that letters do not have.
        due("reform", all * 8, () -> x.reform(3, 4));
        due("reform back", all * 8, () -> x.reform(4, 3));
        due("score", (all - 999) * 9 + all * 48 / 100 * 9, () -> x.score(0, 0));
        due("score of pairs", (all - 999) * 9 + all * 36 / 100 * 9, () -> x.score(3, 4));
        due("votes", 4 * 999, () -> x.votes(4));
        due("elected", 4, () -> x.elected());
        dueReadings("the last word", 3, 19, 1);
        dueReadings("the last word by pairs", 4, 19, 1);
        dueSpelling(3, 19, 0, 8, 44, 0, 0, 8, 44, 0, 0, 8, 44, 0, 0, 8, 44, 0);
    }
}
