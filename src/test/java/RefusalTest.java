import java.util.ArrayList;
import java.util.List;

/**
 * "A call that throws an exception changes nothing": each refused call is done on a forge, and then all answers
 * that it can give are compared with those of a forge without that call. The same for each call that just asks:
 * "all else is asked, and changes nothing".
 */
public final class RefusalTest extends Bench {
    /** An object is used for at most 512 calls, so the answers are asked in parts, each on a new forge. */
    private static final int PART = 350;

    private static final class Refused {
        final String name;
        final String exception;
        final Step call;

        Refused(String name, String exception, Step call) {
            this.name = name;
            this.exception = exception;
            this.call = call;
        }
    }

    private interface Ready {
        void make(Letterforge forge);
    }

    private final List<Refused> refused = new ArrayList<>();
    private final List<Step> asked = new ArrayList<>();
    private final List<Step> told = new ArrayList<>();

    private RefusalTest() {
        super("RefusalTest");
    }

    public static void main(String[] args) {
        new RefusalTest().test();
    }

    private void test() {
        listAsked();
        listTold();
        listRefusedWhenEmpty();
        dueNothingChanged("a new forge without words and designs", forge -> { });
        refused.clear();
        listRefusedAnywhere();
        dueNothingChanged("a new forge", forge -> { });
        dueNothingChangedByAsking("a new forge", forge -> { });
        listRefusedWithDesigns();
        dueNothingChanged("a forge in use", RefusalTest::makeSome);
        dueNothingChangedByAsking("a forge in use", RefusalTest::makeSome);
        listRefusedWhenFull();
        dueNothingChanged("a full forge", RefusalTest::makeFull);
        dueNothingChangedByAsking("a full forge", RefusalTest::makeFull);
        check.end();
    }

    // ---- the forges

    private static int addWordTo(Letterforge forge, int weight, int... codes) {
        for (int code : codes) {
            forge.syllable(code);
        }
        return forge.word(weight);
    }

    /** Words, changes, designs, shapes, keys and groups, each less than there may be, and two in the draft. */
    private static void makeSome(Letterforge forge) {
        addWordTo(forge, 40, code(0, 0, 8, 0));
        addWordTo(forge, 30, code(0, 1, 8, 0));
        addWordTo(forge, 999, code(0, 1, 8, 0), code(1, 0, 0, 1));
        addWordTo(forge, 1, code(1, 0, 0, 0), code(0, 0, 8, 2), code(8, 1, 1, 1));
        forge.change(0, VOWEL, 1, 0, false);
        forge.change(1, TONE, 1, 0, true);
        forge.change(1, ONSET, 0, 8, true);
        forge.change(2, CODA, 8, 1, false);
        forge.design(LETTERS, NONE);
        forge.design(PAIRS, 0);
        forge.design(LETTERS, 1);
        forge.mark(0, 1, false);
        forge.mark(1, 0, false);
        forge.mark(1, 2, false);
        forge.assign(0, 1, 0, true);
        forge.assign(1, 5, 49, false);
        forge.assign(2, 45, 44, true);
        forge.shape(0, 1234);
        forge.shape(44, 1233);
        forge.shape(9, 4);
        forge.key(0, 8, 30);
        forge.key(1, 44, 1);
        forge.key(2, 0, 49);
        forge.group(0, 40, 1, 0);
        forge.group(1, 35, 111, 1);
        forge.group(2, 25, 910, 2);
        forge.syllable(700);
        forge.syllable(971);
    }

    /** As many words, changes and designs as there may be, and a draft of four. */
    private static void makeFull(Letterforge forge) {
        makeSome(forge);
        forge.word(77);
        for (int word = 5; word < 20; word++) {
            addWordTo(forge, 50 * word, 61 * word % 972, 17 * word);
        }
        for (int design = 3; design < 5; design++) {
            forge.design(PAIRS - design % 2, design - 3);
        }
        for (int dialect = 0; dialect < 3; dialect++) {
            for (int change = dialect == 1 ? 2 : 1; change < 6; change++) {
                forge.change(dialect, change % 4, change % 3, dialect, change < 3);
            }
        }
        forge.group(3, 999, 7, 2);
        forge.syllable(1);
        forge.syllable(2);
        forge.syllable(3);
        forge.syllable(4);
    }

    // ---- all answers

    private void listAsked() {
        for (int design = 0; design < 5; design++) {
            int d = design;
            asked.add(forge -> forge.doubts(d));
            asked.add(forge -> forge.load(d));
            asked.add(forge -> forge.clear(d));
            asked.add(forge -> forge.cost(d));
            asked.add(forge -> forge.leastCost(d));
            asked.add(forge -> forge.travel(d));
            asked.add(forge -> forge.exchange(d));
            asked.add(forge -> forge.votes(d));
            for (int few = 0; few < 5; few++) {
                int n = few;
                asked.add(forge -> forge.loadIf(d, n));
                asked.add(forge -> forge.fit(d, n));
                asked.add(forge -> forge.errors(d, n));
                asked.add(forge -> forge.primer(d, 5 * n));
                asked.add(forge -> forge.score(n, d));
                asked.add(forge -> forge.reform(d, n));
                asked.add(forge -> forge.lost(d, n));
            }
            for (int word = 0; word < 20; word += 3) {
                int w = word;
                asked.add(forge -> forge.readings(d, w));
                asked.add(forge -> forge.readingsAnew(d, w));
                for (int place = 0; place < 8; place++) {
                    int p = place;
                    asked.add(forge -> forge.spelled(d, w, p));
                }
            }
        }
        for (int word = 0; word < 20; word++) {
            int w = word;
            for (int place = 0; place < 4; place++) {
                int p = place;
                asked.add(forge -> forge.spoken(p - 1, w, 0));
                asked.add(forge -> forge.spoken(NONE, w, p));
                asked.add(forge -> forge.spoken(p - 1, w, 1));
            }
        }
        for (int sign = 0; sign < 50; sign++) {
            int s = sign;
            asked.add(forge -> forge.apart(s, 7));
        }
        asked.add(forge -> forge.elected());
    }

    /** Calls that change something, and tell by what they answer what was there: the draft, signs, marks and so on. */
    private void listTold() {
        told.add(forge -> forge.syllable(5));
        told.add(forge -> forge.word(500));
        for (int place = 0; place < 5; place++) {
            int p = place;
            told.add(forge -> forge.spoken(NONE, 0, p));
            told.add(forge -> forge.spoken(NONE, 4, p));
        }
        told.add(forge -> forge.syllable(5));
        for (int dialect = 0; dialect < 3; dialect++) {
            int d = dialect;
            told.add(forge -> forge.change(d, ONSET, 0, 0, false));
        }
        told.add(forge -> forge.design(LETTERS, NONE));
        for (int group = 0; group < 4; group++) {
            int g = group;
            told.add(forge -> forge.group(g, 0, 0, 0));
        }
        for (int sign = 0; sign < 50; sign++) {
            int s = sign;
            told.add(forge -> forge.shape(s, 1));
        }
        for (int design = 0; design < 5; design++) {
            int d = design;
            for (int tone = 0; tone < 3; tone++) {
                int t = tone;
                told.add(forge -> forge.mark(d, t, false));
            }
            for (int unit = 0; unit < 47; unit++) {
                int u = unit;
                told.add(forge -> forge.assign(d, u, u, true));
            }
            for (int sign = 0; sign < 50; sign++) {
                int s = sign;
                told.add(forge -> forge.key(d, s, s));
            }
        }
    }

    private List<List<Step>> parts() {
        List<List<Step>> parts = new ArrayList<>();
        for (List<Step> steps : List.of(asked, told)) {
            for (int from = 0; from < steps.size(); from += PART) {
                parts.add(steps.subList(from, Math.min(from + PART, steps.size())));
            }
        }
        return parts;
    }

    private static List<String> answers(Letterforge forge, List<Step> steps) {
        List<String> answers = new ArrayList<>();
        for (Step step : steps) {
            answers.add(Check.told(() -> step.on(forge)));
        }
        return answers;
    }

    private void dueNothingChanged(String which, Ready ready) {
        begin(which);
        for (List<Step> part : parts()) {
            x = new Letterforge();
            ready.make(x);
            List<String> want = answers(x, part);
            for (Refused call : refused) {
                x = new Letterforge();
                ready.make(x);
                due(call.name, call.exception, () -> call.call.on(x));
                due("behind " + call.name, want, () -> answers(x, part));
            }
        }
    }

    /** All that asks is asked once ahead of the answers that are compared. */
    private void dueNothingChangedByAsking(String which, Ready ready) {
        begin(which);
        List<List<Step>> parts = parts();
        for (List<Step> part : parts) {
            x = new Letterforge();
            ready.make(x);
            List<String> want = answers(x, part);
            for (int from = 0; from < asked.size(); from += 20) {
                List<Step> ahead = asked.subList(from, Math.min(from + 20, asked.size()));
                x = new Letterforge();
                ready.make(x);
                answers(x, ahead);
                due("behind asking from " + from, want, () -> answers(x, part));
            }
        }
    }

    // ---- the refused calls

    private void add(String name, String exception, Step call) {
        refused.add(new Refused(name, exception, call));
    }

    private void listRefusedWhenEmpty() {
        add("a word of an empty draft", STATE, forge -> forge.word(1));
        add("elected without designs", STATE, forge -> forge.elected());
        add("word 0", INDEX, forge -> forge.spoken(NONE, 0, 0));
        listRefusedOfDesign(0);
    }

    private void listRefusedAnywhere() {
        for (int v : new int[] {-1, 972, HIGHEST, LOWEST}) {
            add("syllable " + v, ARGUMENT, forge -> forge.syllable(v));
        }
        for (int v : new int[] {-1, 0, 1000, HIGHEST, LOWEST}) {
            add("word " + v, ARGUMENT, forge -> forge.word(v));
        }
        for (int v : new int[] {-1, 3, HIGHEST, LOWEST}) {
            add("change of dialect " + v, INDEX, forge -> forge.change(v, VOWEL, 1, 2, false));
            add("change of tone " + v, ARGUMENT, forge -> forge.change(0, TONE, v, 2, false));
            add("change to tone " + v, ARGUMENT, forge -> forge.change(0, TONE, 0, v, false));
            add("group with dialect " + v, INDEX, forge -> forge.group(0, 7, 7, v));
            add("fit to dialect " + v, INDEX, forge -> forge.fit(0, v));
            add("mark of tone " + v, INDEX, forge -> forge.mark(0, v, false));
            add("loadIf of tone " + v, INDEX, forge -> forge.loadIf(0, v));
        }
        for (int v : new int[] {-1, 4, HIGHEST, LOWEST}) {
            add("change of part " + v, INDEX, forge -> forge.change(0, v, 0, 1, false));
            add("change of vowel " + v, ARGUMENT, forge -> forge.change(2, VOWEL, v, 1, false));
            add("change to vowel " + v, ARGUMENT, forge -> forge.change(2, VOWEL, 0, v, true));
            add("group " + v, INDEX, forge -> forge.group(v, 7, 7, 1));
            add("score of group " + v, INDEX, forge -> forge.score(v, 0));
        }
        for (int v : new int[] {-1, 9, HIGHEST, LOWEST}) {
            add("change of onset " + v, ARGUMENT, forge -> forge.change(1, ONSET, v, 1, false));
            add("change to coda " + v, ARGUMENT, forge -> forge.change(1, CODA, 0, v, true));
        }
        for (int v : new int[] {-2, 3, HIGHEST, LOWEST}) {
            add("spoken by " + v, INDEX, forge -> forge.spoken(v, 0, 0));
            add("design with base " + v, ARGUMENT, forge -> forge.design(LETTERS, v));
        }
        for (int v : new int[] {-1, 2, HIGHEST, LOWEST}) {
            add("design of kind " + v, ARGUMENT, forge -> forge.design(v, 0));
        }
        for (int v : new int[] {-1, 20, HIGHEST, LOWEST}) {
            add("spoken, word " + v, INDEX, forge -> forge.spoken(NONE, v, 0));
            add("spelled, word " + v, INDEX, forge -> forge.spelled(0, v, 0));
            add("readings, word " + v, INDEX, forge -> forge.readings(0, v));
            add("readingsAnew, word " + v, INDEX, forge -> forge.readingsAnew(0, v));
        }
        for (int v : new int[] {-1, LOWEST}) {
            add("spoken, place " + v, INDEX, forge -> forge.spoken(NONE, 0, v));
            add("spelled, place " + v, INDEX, forge -> forge.spelled(0, 0, v));
            add("primer, place " + v, INDEX, forge -> forge.primer(0, v));
        }
        for (int v : new int[] {-1, 50, HIGHEST, LOWEST}) {
            add("shape of sign " + v, INDEX, forge -> forge.shape(v, 4));
            add("apart, sign " + v, INDEX, forge -> forge.apart(v, 0));
            add("apart, other " + v, INDEX, forge -> forge.apart(0, v));
            add("key, sign " + v, INDEX, forge -> forge.key(0, v, 7));
            add("key, key " + v, INDEX, forge -> forge.key(0, 7, v));
        }
        for (int v : new int[] {0, 5, 10, 110, 115, 501, 4445, 5111, 11111, -111, HIGHEST, LOWEST}) {
            add("shape " + v, ARGUMENT, forge -> forge.shape(5, v));
        }
        for (int v : new int[] {-1, 1000, HIGHEST, LOWEST}) {
            add("group with people " + v, ARGUMENT, forge -> forge.group(2, v, 7, 1));
            add("group with worths " + v, ARGUMENT, forge -> forge.group(2, 7, v, 1));
        }
        for (int v : new int[] {-1, 5, HIGHEST, LOWEST}) {
            listRefusedOfDesign(v);
        }
        add("assign to unit 47", INDEX, forge -> forge.assign(0, 47, 3, true));
        add("assign to unit -1", INDEX, forge -> forge.assign(0, -1, 3, true));
    }

    private void listRefusedOfDesign(int v) {
        add("assign in " + v, INDEX, forge -> forge.assign(v, 0, 49, true));
        add("mark in " + v, INDEX, forge -> forge.mark(v, 0, false));
        add("spelled in " + v, INDEX, forge -> forge.spelled(v, 0, 0));
        add("doubts of " + v, INDEX, forge -> forge.doubts(v));
        add("load of " + v, INDEX, forge -> forge.load(v));
        add("loadIf of " + v, INDEX, forge -> forge.loadIf(v, 0));
        add("readings in " + v, INDEX, forge -> forge.readings(v, 0));
        add("readingsAnew in " + v, INDEX, forge -> forge.readingsAnew(v, 0));
        add("fit of " + v, INDEX, forge -> forge.fit(v, 0));
        add("clear of " + v, INDEX, forge -> forge.clear(v));
        add("errors of " + v, INDEX, forge -> forge.errors(v, 0));
        add("primer of " + v, INDEX, forge -> forge.primer(v, 0));
        add("cost of " + v, INDEX, forge -> forge.cost(v));
        add("leastCost of " + v, INDEX, forge -> forge.leastCost(v));
        add("key in " + v, INDEX, forge -> forge.key(v, 0, 49));
        add("travel of " + v, INDEX, forge -> forge.travel(v));
        add("exchange of " + v, INDEX, forge -> forge.exchange(v));
        add("score of " + v, INDEX, forge -> forge.score(0, v));
        add("votes of " + v, INDEX, forge -> forge.votes(v));
        add("reform from " + v, INDEX, forge -> forge.reform(v, 0));
        add("reform to " + v, INDEX, forge -> forge.reform(0, v));
        add("lost from " + v, INDEX, forge -> forge.lost(v, 0));
        add("lost to " + v, INDEX, forge -> forge.lost(0, v));
    }

    private void listRefusedWithDesigns() {
        for (int v : new int[] {-1, 50, HIGHEST, LOWEST}) {
            add("assign of sign " + v, ARGUMENT, forge -> forge.assign(0, 0, v, true));
            add("assign of sign " + v + " alone", ARGUMENT, forge -> forge.assign(1, 46, v, false));
        }
        for (int v : new int[] {12, 43}) {
            add("assign to unit " + v + " of letters", INDEX, forge -> forge.assign(0, v, 49, true));
        }
        add("assign of another's sign", STATE, forge -> forge.assign(0, 2, 3, false));
        add("assign of an unmarked mark's sign", STATE, forge -> forge.assign(0, 2, 45, false));
        add("assign of another's sign to a mark", STATE, forge -> forge.assign(1, 44, 49, false));
        add("assign of its own sign, shared", STATE, forge -> forge.assign(0, 1, 0, false));
        for (int v : new int[] {-1, 5, HIGHEST, LOWEST}) {
            add("errors, far " + v, ARGUMENT, forge -> forge.errors(0, v));
        }
    }

    private void listRefusedWhenFull() {
        add("a fifth syllable", STATE, forge -> forge.syllable(0));
        add("a twenty-first word", STATE, forge -> forge.word(1));
        for (int dialect = 0; dialect < 3; dialect++) {
            int d = dialect;
            add("a seventh change of " + d, STATE, forge -> forge.change(d, VOWEL, 0, 3, false));
        }
        add("a sixth design", STATE, forge -> forge.design(PAIRS, NONE));
        add("leastCost of more than 10 signs", STATE, forge -> forge.leastCost(0));
    }
}
