import java.util.ArrayList;
import java.util.List;

/** What the tests of examples share: the forge they ask, words and designs for it, and checks of its answers. */
abstract class Bench {
    static final String INDEX = "throws.IndexOutOfBoundsException";
    static final String ARGUMENT = "throws.IllegalArgumentException";
    static final String STATE = "throws.IllegalStateException";
    static final int NONE = Letterforge.NONE;
    static final int LETTERS = Letterforge.LETTERS, PAIRS = Letterforge.PAIRS;
    static final int ONSET = Letterforge.ONSET, VOWEL = Letterforge.VOWEL;
    static final int CODA = Letterforge.CODA, TONE = Letterforge.TONE;
    static final int LOWEST = Integer.MIN_VALUE, HIGHEST = Integer.MAX_VALUE;

    /** A call on a forge. */
    interface Step {
        Object on(Letterforge forge);
    }

    /** A call on a forge of which one argument is tried with several values. */
    interface Asked {
        Object with(int value);
    }

    final Check check;
    private String about = "";
    Letterforge x;

    Bench(String test) {
        check = new Check(test);
    }

    void begin(String name) {
        about = name;
        x = new Letterforge();
    }

    /** Takes a new forge and makes it ready. */
    void begin(Runnable ready) {
        x = new Letterforge();
        ready.run();
    }

    void due(String what, Object want, Check.Call call) {
        check.due(about + ": " + what, want, call);
    }

    /**
     * Tries the least and the greatest value of a range, which are answered by what good says, and the values
     * next to them outside and far away, which are refused; each on a new forge that has been made ready.
     */
    void dueEdges(String what, int least, int greatest, String refused, Runnable ready, Asked call, Asked good) {
        for (int value : new int[] {least, greatest}) {
            begin(ready);
            due(what + " " + value, good.with(value), () -> call.with(value));
        }
        for (int value : new int[] {least - 1, greatest + 1, LOWEST, HIGHEST}) {
            if (value < least || value > greatest) {
                begin(ready);
                due(what + " " + value, refused, () -> call.with(value));
            }
        }
    }

    /** As the one above, of a range behind whose greatest value NONE is answered. */
    void dueEdgesAndNone(String what, int greatest, String refused, Runnable ready, Asked call, Asked good) {
        dueEdges(what, 0, HIGHEST, refused, ready, call, v -> v <= greatest ? good.with(v) : NONE);
        begin(ready);
        due(what + " " + greatest, good.with(greatest), () -> call.with(greatest));
        due(what + " " + (greatest + 1), NONE, () -> call.with(greatest + 1));
    }

    /** The code of a syllable; 8 is no onset or no coda. */
    static int code(int onset, int vowel, int coda, int tone) {
        return 108 * onset + 27 * vowel + 3 * coda + tone;
    }

    static int vowel(int vowel) {
        return code(8, vowel, 8, 0);
    }

    int addWord(int weight, int... codes) {
        for (int code : codes) {
            x.syllable(code);
        }
        return x.word(weight);
    }

    /** So many words of one syllable, all of the same row and with the weight 1. */
    void addWords(int words) {
        for (int word = 0; word < words; word++) {
            addWord(1, vowel(0));
        }
    }

    void addDesigns(int designs) {
        for (int design = 0; design < designs; design++) {
            x.design(LETTERS, NONE);
        }
    }

    int addToneless(int kind, int base) {
        int design = x.design(kind, base);
        for (int tone = 0; tone < 3; tone++) {
            x.mark(design, tone, false);
        }
        return design;
    }

    /** The numbers of the units that a kind of designs has. */
    static List<Integer> unitsOf(int kind) {
        List<Integer> units = new ArrayList<>();
        for (int unit = 0; unit < 47; unit++) {
            if (kind == PAIRS || unit < 12 || unit > 43) {
                units.add(unit);
            }
        }
        return units;
    }

    void giveAll(int design, int kind, int sign) {
        for (int unit : unitsOf(kind)) {
            x.assign(design, unit, sign, true);
        }
    }

    void dueSpelling(int design, int word, int... signs) {
        for (int place = 0; place < signs.length; place++) {
            int at = place;
            due("sign " + place + " of word " + word + " in design " + design, signs[place],
                    () -> x.spelled(design, word, at));
        }
        due("behind the last sign", NONE, () -> x.spelled(design, word, signs.length));
    }

    void dueReadings(String what, int design, int word, long want) {
        due(what, want, () -> x.readings(design, word));
        due(what + ", anew", want, () -> x.readingsAnew(design, word));
    }

    void duePrimer(int design, int... signs) {
        for (int place = 0; place < signs.length; place++) {
            int at = place;
            due("place " + at, signs[at], () -> x.primer(design, at));
        }
        due("behind the last one", NONE, () -> x.primer(design, signs.length));
    }
}
