import java.util.Arrays;

/** A script for those who have none: words, the designs that spell them, and what comes of it. */
public final class Letterforge {
    public static final int NONE = -1;
    public static final int ONSET = 0, VOWEL = 1, CODA = 2, TONE = 3;
    public static final int LETTERS = 0, PAIRS = 1;

    private static final int MOST_SYLLABLES = 4;
    private static final int CODES = 972;
    private static final int CONSONANTS = 8, NO_CONSONANT = 8;
    private static final int VOWELS = 4;
    private static final int TONES = 3;

    private static final int MOST_WORDS = 20;
    private static final int MOST_WEIGHT = 999;
    private static final int DIALECTS = 3;
    private static final int MOST_CHANGES = 6;

    private static final int MOST_DESIGNS = 5;
    private static final int SIGNS = 50;
    private static final int UNITS = 47;
    private static final int LETTER_UNITS = 12, LETTER_VOWELS = 8;
    private static final int PAIR_UNITS = 36;
    private static final int TONE_UNITS = 44;
    /** A syllable has at most four signs: onset, vowel, mark of the tone and coda. */
    private static final int SYLLABLE_SIGNS = 4;
    private static final int MOST_SIGNS = MOST_SYLLABLES * SYLLABLE_SIGNS;

    private static final int MOST_STROKES = 4, STROKES = 4;
    private static final int MOST_FAR = 4;
    private static final int MOST_PRIMED = 10;
    private static final int GROUPS = 4;
    private static final int MOST_PEOPLE = 999, MOST_WORTHS = 999;

    private final Words words = new Words();
    private final Dialect plain = new Dialect();
    private final Dialect[] dialects = new Dialect[DIALECTS];
    private final Design[] designs = new Design[MOST_DESIGNS];
    private int designCount = 0;
    private final Shapes shapes = new Shapes();
    private final Ballot ballot = new Ballot();

    // Rows that are used anew by each call, as no call may make many of its own.
    private final Spellings spellings = new Spellings();
    private final Spellings otherSpellings = new Spellings();
    private final Ways ways = new Ways();
    private final Reader reader = new Reader();
    private final Primer primers = new Primer();
    private final Keyboard keyboard = new Keyboard();

    public Letterforge() {
        for (int dialect = 0; dialect < DIALECTS; dialect++) {
            dialects[dialect] = new Dialect();
        }
    }

    // ---- WORDS

    public int syllable(int code) throws IllegalArgumentException, IllegalStateException {
        if (code < 0 || code >= CODES) {
            throw new IllegalArgumentException("code is out of range");
        }
        if (words.drafted >= MOST_SYLLABLES) {
            throw new IllegalStateException("the draft has 4 syllables");
        }
        return words.append(code);
    }

    public int word(int weight) throws IllegalArgumentException, IllegalStateException {
        if (weight < 1 || weight > MOST_WEIGHT) {
            throw new IllegalArgumentException("weight is out of range");
        }
        if (words.drafted == 0) {
            throw new IllegalStateException("the draft is empty");
        }
        if (words.count >= MOST_WORDS) {
            throw new IllegalStateException("there are 20 words");
        }
        plain.hear(words.draft, words.drafted);
        for (int dialect = 0; dialect < DIALECTS; dialect++) {
            dialects[dialect].hear(words.draft, words.drafted);
        }
        return words.endDraft(weight);
    }

    public int change(int dialect, int part, int from, int to, boolean isFinal)
            throws IndexOutOfBoundsException, IllegalArgumentException, IllegalStateException {
        requireDialect(dialect);
        if (part < ONSET || part > TONE) {
            throw new IndexOutOfBoundsException("no such part");
        }
        int values = valuesOf(part);
        if (from < 0 || from >= values || to < 0 || to >= values) {
            throw new IllegalArgumentException("no value of the part");
        }
        if (dialects[dialect].changes >= MOST_CHANGES) {
            throw new IllegalStateException("the dialect has 6 changes");
        }
        return dialects[dialect].append(part, from, to, isFinal);
    }

    public int spoken(int dialect, int word, int place) throws IndexOutOfBoundsException {
        if (dialect != NONE) {
            requireDialect(dialect);
        }
        requireWord(word);
        requirePlace(place);
        Dialect speaker = speaker(dialect);
        return place < speaker.lengths[word] ? speaker.rows[word][place] : NONE;
    }

    // ---- DESIGNS

    public int design(int kind, int base) throws IllegalArgumentException, IllegalStateException {
        if (kind != LETTERS && kind != PAIRS) {
            throw new IllegalArgumentException("no such kind");
        }
        if (base != NONE && (base < 0 || base >= DIALECTS)) {
            throw new IllegalArgumentException("no such base");
        }
        if (designCount >= MOST_DESIGNS) {
            throw new IllegalStateException("there are 5 designs");
        }
        designs[designCount] = new Design(kind, base);
        designCount++;
        return designCount - 1;
    }

    public int assign(int design, int unit, int sign, boolean mayShare)
            throws IndexOutOfBoundsException, IllegalArgumentException, IllegalStateException {
        requireDesign(design);
        if (!designs[design].hasUnit(unit)) {
            throw new IndexOutOfBoundsException("no such unit");
        }
        if (sign < 0 || sign >= SIGNS) {
            throw new IllegalArgumentException("sign is out of range");
        }
        if (!mayShare && designs[design].othersHave(unit, sign)) {
            throw new IllegalStateException("another unit has the sign");
        }
        int before = designs[design].signs[unit];
        designs[design].signs[unit] = sign;
        return before;
    }

    public boolean mark(int design, int tone, boolean is) throws IndexOutOfBoundsException {
        requireDesign(design);
        requireTone(tone);
        boolean before = designs[design].marked[tone];
        designs[design].marked[tone] = is;
        return before;
    }

    public int spelled(int design, int word, int place) throws IndexOutOfBoundsException {
        requireDesign(design);
        requireWord(word);
        requirePlace(place);
        spellAll(designs[design]);
        return place < spellings.lengths[word] ? spellings.rows[word][place] : NONE;
    }

    // ---- doubts

    public int doubts(int design) throws IndexOutOfBoundsException {
        requireDesign(design);
        spellAll(designs[design]);
        int pairs = 0;
        for (int word = 0; word < words.count; word++) {
            for (int other = 0; other < word; other++) {
                if (spellings.alike(word, other)) {
                    pairs++;
                }
            }
        }
        return pairs;
    }

    public int load(int design) throws IndexOutOfBoundsException {
        requireDesign(design);
        spellAll(designs[design]);
        return spellings.doubtfulWeight(words.weights);
    }

    public int loadIf(int design, int tone) throws IndexOutOfBoundsException {
        requireDesign(design);
        requireTone(tone);
        boolean[] marked = designs[design].marked;
        boolean before = marked[tone];
        marked[tone] = !before;
        spellAll(designs[design]);
        marked[tone] = before;
        return spellings.doubtfulWeight(words.weights);
    }

    public long readings(int design, int word) throws IndexOutOfBoundsException {
        requireDesign(design);
        requireWord(word);
        spellAll(designs[design]);
        return reader.countByUnits(designs[design], spellings.rows[word], spellings.lengths[word]);
    }

    public long readingsAnew(int design, int word) throws IndexOutOfBoundsException {
        requireDesign(design);
        requireWord(word);
        spellAll(designs[design]);
        return reader.countBySyllables(designs[design], spellings.rows[word], spellings.lengths[word]);
    }

    public int fit(int design, int dialect) throws IndexOutOfBoundsException {
        requireDesign(design);
        requireDialect(dialect);
        spellAll(designs[design]);
        return fitOfSpelled(designs[design], dialect);
    }

    // ---- shapes

    public int shape(int sign, int shape) throws IndexOutOfBoundsException, IllegalArgumentException {
        requireSign(sign);
        if (!Shapes.isOne(shape)) {
            throw new IllegalArgumentException("no shape");
        }
        int before = shapes.numbers[sign];
        shapes.put(sign, shape);
        return before;
    }

    public int apart(int sign, int other) throws IndexOutOfBoundsException {
        requireSign(sign);
        requireSign(other);
        return shapes.between(sign, other);
    }

    public int clear(int design) throws IndexOutOfBoundsException {
        requireDesign(design);
        return shapes.leastBetween(designs[design].signSet());
    }

    public int errors(int design, int far) throws IndexOutOfBoundsException, IllegalArgumentException {
        requireDesign(design);
        if (far < 0 || far > MOST_FAR) {
            throw new IllegalArgumentException("far is out of range");
        }
        spellAll(designs[design]);
        long mistaken = shapes.mistaken(spellings.signsInUse(), designs[design].signSet(), far);
        int sum = 0;
        for (int word = 0; word < words.count; word++) {
            sum += words.weights[word] * spellings.placesWith(word, mistaken);
        }
        return sum;
    }

    // ---- primers

    public int primer(int design, int place) throws IndexOutOfBoundsException {
        requireDesign(design);
        requirePlace(place);
        prepareQuickPrimer(designs[design]);
        return place < primers.length ? primers.order[place] : NONE;
    }

    public int cost(int design) throws IndexOutOfBoundsException {
        requireDesign(design);
        prepareQuickPrimer(designs[design]);
        return primers.costOfOrder();
    }

    public int leastCost(int design) throws IndexOutOfBoundsException, IllegalStateException {
        requireDesign(design);
        spellAll(designs[design]);
        primers.take(spellings, words.weights);
        if (Long.bitCount(primers.inUse) > MOST_PRIMED) {
            throw new IllegalStateException("more than 10 signs are in use");
        }
        return primers.leastOfOrders();
    }

    // ---- keys

    public int key(int design, int sign, int key) throws IndexOutOfBoundsException {
        requireDesign(design);
        requireSign(sign);
        if (key < 0 || key >= SIGNS) {
            throw new IndexOutOfBoundsException("no such key");
        }
        return designs[design].putOnKey(sign, key);
    }

    public int travel(int design) throws IndexOutOfBoundsException {
        requireDesign(design);
        spellAll(designs[design]);
        int sum = 0;
        for (int word = 0; word < words.count; word++) {
            int way = designs[design].keysGone(spellings.rows[word], spellings.lengths[word]);
            sum += words.weights[word] * way;
        }
        return sum;
    }

    public int exchange(int design) throws IndexOutOfBoundsException {
        requireDesign(design);
        spellAll(designs[design]);
        keyboard.take(spellings, words.weights);
        return keyboard.bestExchange(spellings.signsInUse(), designs[design].keys);
    }

    // ---- votes

    public int group(int group, int people, int worths, int dialect)
            throws IndexOutOfBoundsException, IllegalArgumentException {
        requireGroup(group);
        requireDialect(dialect);
        if (people < 0 || people > MOST_PEOPLE) {
            throw new IllegalArgumentException("people are not from 0 to 999");
        }
        if (worths < 0 || worths > MOST_WORTHS) {
            throw new IllegalArgumentException("worths are not from 0 to 999");
        }
        int before = ballot.people[group];
        ballot.people[group] = people;
        ballot.worths[group] = worths;
        ballot.dialects[group] = dialect;
        return before;
    }

    public int score(int group, int design) throws IndexOutOfBoundsException {
        requireGroup(group);
        requireDesign(design);
        return scoreOf(group, designs[design]);
    }

    public int votes(int design) throws IndexOutOfBoundsException {
        requireDesign(design);
        prepareBallot();
        ballot.countVotes();
        return ballot.votes[design];
    }

    public int elected() throws IllegalStateException {
        if (designCount == 0) {
            throw new IllegalStateException("there is no design");
        }
        if (ballot.allPeople() == 0) {
            return NONE;
        }
        prepareBallot();
        return ballot.winner();
    }

    // ---- reforms

    public int reform(int from, int to) throws IndexOutOfBoundsException {
        requireDesign(from);
        requireDesign(to);
        spellBoth(from, to);
        int sum = 0;
        for (int word = 0; word < words.count; word++) {
            int way = ways.between(spellings.rows[word], spellings.lengths[word],
                    otherSpellings.rows[word], otherSpellings.lengths[word]);
            sum += words.weights[word] * way;
        }
        return sum;
    }

    public int lost(int from, int to) throws IndexOutOfBoundsException {
        requireDesign(from);
        requireDesign(to);
        spellBoth(from, to);
        int sum = 0;
        for (int word = 0; word < words.count; word++) {
            if (isSplitByReform(word)) {
                sum += words.weights[word];
            }
        }
        return sum;
    }

    // ---- what several calls need

    private void requireDialect(int dialect) {
        if (dialect < 0 || dialect >= DIALECTS) {
            throw new IndexOutOfBoundsException("no such dialect");
        }
    }

    private void requireWord(int word) {
        if (word < 0 || word >= words.count) {
            throw new IndexOutOfBoundsException("no such word");
        }
    }

    private void requirePlace(int place) {
        if (place < 0) {
            throw new IndexOutOfBoundsException("place is below 0");
        }
    }

    private void requireDesign(int design) {
        if (design < 0 || design >= designCount) {
            throw new IndexOutOfBoundsException("no such design");
        }
    }

    private void requireTone(int tone) {
        if (tone < 0 || tone >= TONES) {
            throw new IndexOutOfBoundsException("no such tone");
        }
    }

    private void requireSign(int sign) {
        if (sign < 0 || sign >= SIGNS) {
            throw new IndexOutOfBoundsException("no such sign");
        }
    }

    private void requireGroup(int group) {
        if (group < 0 || group >= GROUPS) {
            throw new IndexOutOfBoundsException("no such group");
        }
    }

    /** Who speaks the words of a design with this base. */
    private Dialect speaker(int base) {
        return base == NONE ? plain : dialects[base];
    }

    private void spellAll(Design design) {
        spellings.take(design, speaker(design.base));
    }

    private void spellBoth(int from, int to) {
        spellAll(designs[from]);
        otherSpellings.take(designs[to], speaker(designs[to].base));
    }

    /** The fit of a design whose spellings have been prepared. */
    private int fitOfSpelled(Design design, int dialect) {
        otherSpellings.take(design, speaker(dialect));
        int sum = 0;
        for (int word = 0; word < words.count; word++) {
            if (spellings.alikeIn(otherSpellings, word)) {
                sum += words.weights[word];
            }
        }
        return sum;
    }

    private void prepareQuickPrimer(Design design) {
        spellAll(design);
        primers.take(spellings, words.weights);
        primers.putInOrder();
    }

    private int scoreOf(int group, Design design) {
        spellAll(design);
        int load = spellings.doubtfulWeight(words.weights);
        int all = 0;
        int strokes = 0;
        for (int word = 0; word < words.count; word++) {
            all += words.weights[word];
            strokes += words.weights[word]
                    * shapes.strokesIn(spellings.rows[word], spellings.lengths[word]);
        }
        int unfit = all - fitOfSpelled(design, ballot.dialects[group]);
        int worths = ballot.worths[group];
        return load * (worths / 100) + strokes / 100 * (worths / 10 % 10) + unfit * (worths % 10);
    }

    private void prepareBallot() {
        ballot.open(designCount);
        for (int group = 0; group < GROUPS; group++) {
            for (int design = 0; design < designCount; design++) {
                ballot.scores[group][design] = scoreOf(group, designs[design]);
            }
        }
    }

    private boolean isSplitByReform(int word) {
        for (int other = 0; other < words.count; other++) {
            if (spellings.alike(word, other) && !otherSpellings.alike(word, other)) {
                return true;
            }
        }
        return false;
    }

    /** How many values a part of a syllable has. */
    private static int valuesOf(int part) {
        switch (part) {
            case ONSET:
            case CODA:
                return CONSONANTS + 1;
            case VOWEL:
                return VOWELS;
            default:
                return TONES;
        }
    }

    /** By how much the code of a syllable grows with a part of it. */
    private static int stepOf(int part) {
        switch (part) {
            case ONSET:
                return 108;
            case VOWEL:
                return 27;
            case CODA:
                return 3;
            default:
                return 1;
        }
    }

    private static int partOf(int code, int part) {
        switch (part) {
            case ONSET:
                return code / 108;
            case VOWEL:
                return code / 27 % 4;
            case CODA:
                return code / 3 % 9;
            default:
                return code % 3;
        }
    }

    private static boolean has(long signSet, int sign) {
        return (signSet >> sign & 1L) != 0;
    }

    private static int distance(int place, int other) {
        return place < other ? other - place : place - other;
    }

    /** The draft, and what the words weigh; the dialects keep their rows. */
    private static final class Words {
        private final int[] draft = new int[MOST_SYLLABLES];
        private int drafted = 0;
        private final int[] weights = new int[MOST_WORDS];
        private int count = 0;

        int append(int code) {
            draft[drafted] = code;
            drafted++;
            return drafted;
        }

        int endDraft(int weight) {
            weights[count] = weight;
            drafted = 0;
            count++;
            return count - 1;
        }
    }

    /** The changes of a dialect, and the rows of all words with these changes done. */
    private static final class Dialect {
        private final int[] parts = new int[MOST_CHANGES];
        private final int[] froms = new int[MOST_CHANGES];
        private final int[] tos = new int[MOST_CHANGES];
        private final boolean[] finals = new boolean[MOST_CHANGES];
        private int changes = 0;
        private final int[][] rows = new int[MOST_WORDS][MOST_SYLLABLES];
        private final int[] lengths = new int[MOST_WORDS];
        private int words = 0;

        void hear(int[] row, int length) {
            for (int place = 0; place < length; place++) {
                rows[words][place] = row[place];
            }
            lengths[words] = length;
            for (int change = 0; change < changes; change++) {
                alter(words, change);
            }
            words++;
        }

        /** The new change is the last one, so the rows need just this one more. */
        int append(int part, int from, int to, boolean isFinal) {
            parts[changes] = part;
            froms[changes] = from;
            tos[changes] = to;
            finals[changes] = isFinal;
            for (int word = 0; word < words; word++) {
                alter(word, changes);
            }
            changes++;
            return changes;
        }

        private void alter(int word, int change) {
            int step = (tos[change] - froms[change]) * stepOf(parts[change]);
            int last = lengths[word] - 1;
            for (int place = 0; place <= last; place++) {
                boolean isMeant = !finals[change] || place == last;
                if (isMeant && partOf(rows[word][place], parts[change]) == froms[change]) {
                    rows[word][place] += step;
                }
            }
        }
    }

    /** The units of a design with their signs, its marks and its keys. */
    private static final class Design {
        private final int kind;
        private final int base;
        private final int[] signs = new int[UNITS];
        private final boolean[] marked = new boolean[TONES];
        /** The key of each sign. */
        private final int[] keys = new int[SIGNS];

        Design(int kind, int base) {
            this.kind = kind;
            this.base = base;
            for (int tone = 0; tone < TONES; tone++) {
                marked[tone] = true;
            }
            for (int unit = 0; unit < UNITS; unit++) {
                signs[unit] = unit;
            }
            for (int sign = 0; sign < SIGNS; sign++) {
                keys[sign] = sign;
            }
        }

        boolean hasUnit(int unit) {
            if (unit < 0 || unit >= UNITS) {
                return false;
            }
            return kind == PAIRS || unit < LETTER_UNITS || unit >= TONE_UNITS;
        }

        boolean othersHave(int unit, int sign) {
            for (int other = 0; other < UNITS; other++) {
                if (other != unit && hasUnit(other) && signs[other] == sign) {
                    return true;
                }
            }
            return false;
        }

        /** The signs that some unit has, each as the bit with its number. */
        long signSet() {
            long set = 0;
            for (int unit = 0; unit < UNITS; unit++) {
                if (hasUnit(unit)) {
                    set |= 1L << signs[unit];
                }
            }
            return set;
        }

        /** Where the units of consonants as codas begin. */
        int codaUnits() {
            return kind == PAIRS ? PAIR_UNITS : 0;
        }

        /** Puts the signs of a syllable behind those that are there, and returns where they end. */
        int spellSyllable(int code, int[] into, int start) {
            int onset = partOf(code, ONSET);
            int vowel = partOf(code, VOWEL);
            int coda = partOf(code, CODA);
            int tone = partOf(code, TONE);
            int end = start;
            if (kind == PAIRS) {
                into[end++] = signs[VOWELS * onset + vowel];
            } else {
                if (onset != NO_CONSONANT) {
                    into[end++] = signs[onset];
                }
                into[end++] = signs[LETTER_VOWELS + vowel];
            }
            if (marked[tone]) {
                into[end++] = signs[TONE_UNITS + tone];
            }
            if (coda != NO_CONSONANT) {
                into[end++] = signs[codaUnits() + coda];
            }
            return end;
        }

        /** How many of the units from first on have a sign. */
        int unitsWith(int sign, int first, int units) {
            int count = 0;
            for (int unit = first; unit < first + units; unit++) {
                if (signs[unit] == sign) {
                    count++;
                }
            }
            return count;
        }

        int unmarkedTones() {
            int count = 0;
            for (int tone = 0; tone < TONES; tone++) {
                if (!marked[tone]) {
                    count++;
                }
            }
            return count;
        }

        int markedTonesWith(int sign) {
            int count = 0;
            for (int tone = 0; tone < TONES; tone++) {
                if (marked[tone] && signs[TONE_UNITS + tone] == sign) {
                    count++;
                }
            }
            return count;
        }

        int putOnKey(int sign, int key) {
            int before = keys[sign];
            for (int other = 0; other < SIGNS; other++) {
                if (keys[other] == key) {
                    keys[other] = before;
                }
            }
            keys[sign] = key;
            return before;
        }

        int keysGone(int[] spelling, int length) {
            int sum = 0;
            for (int place = 1; place < length; place++) {
                sum += distance(keys[spelling[place - 1]], keys[spelling[place]]);
            }
            return sum;
        }
    }

    /** The spellings of all words in one design. */
    private static final class Spellings {
        private final int[][] rows = new int[MOST_WORDS][MOST_SIGNS];
        private final int[] lengths = new int[MOST_WORDS];
        private int count = 0;

        void take(Design design, Dialect speaker) {
            count = speaker.words;
            for (int word = 0; word < count; word++) {
                int end = 0;
                for (int place = 0; place < speaker.lengths[word]; place++) {
                    end = design.spellSyllable(speaker.rows[word][place], rows[word], end);
                }
                lengths[word] = end;
            }
        }

        boolean alike(int word, int other) {
            return sameRow(rows[word], lengths[word], rows[other], lengths[other]);
        }

        boolean alikeIn(Spellings others, int word) {
            return sameRow(rows[word], lengths[word], others.rows[word], others.lengths[word]);
        }

        private static boolean sameRow(int[] row, int length, int[] other, int otherLength) {
            if (length != otherLength) {
                return false;
            }
            for (int place = 0; place < length; place++) {
                if (row[place] != other[place]) {
                    return false;
                }
            }
            return true;
        }

        /** The weights of all words but the heaviest one of each spelling. */
        int doubtfulWeight(int[] weights) {
            int sum = 0;
            for (int word = 0; word < count; word++) {
                if (!isHeaviest(word, weights)) {
                    sum += weights[word];
                }
            }
            return sum;
        }

        /** Of several words that are as heavy the first one counts as the heaviest. */
        private boolean isHeaviest(int word, int[] weights) {
            for (int other = 0; other < count; other++) {
                boolean ahead = weights[other] > weights[word]
                        || weights[other] == weights[word] && other < word;
                if (ahead && alike(word, other)) {
                    return false;
                }
            }
            return true;
        }

        long signsOf(int word) {
            long set = 0;
            for (int place = 0; place < lengths[word]; place++) {
                set |= 1L << rows[word][place];
            }
            return set;
        }

        long signsInUse() {
            long set = 0;
            for (int word = 0; word < count; word++) {
                set |= signsOf(word);
            }
            return set;
        }

        int placesWith(int word, long signSet) {
            int places = 0;
            for (int place = 0; place < lengths[word]; place++) {
                if (has(signSet, rows[word][place])) {
                    places++;
                }
            }
            return places;
        }
    }

    /** The least number of things to be put in, taken out or made another one. */
    private static final class Ways {
        private final int[] least = new int[MOST_SIGNS + 1];

        int between(int[] from, int fromLength, int[] to, int toLength) {
            for (int end = 0; end <= toLength; end++) {
                least[end] = end;
            }
            for (int start = 1; start <= fromLength; start++) {
                int diagonal = least[0];
                least[0] = start;
                for (int end = 1; end <= toLength; end++) {
                    int kept = from[start - 1] == to[end - 1] ? diagonal : diagonal + 1;
                    diagonal = least[end];
                    least[end] = Math.min(kept, 1 + Math.min(least[end], least[end - 1]));
                }
            }
            return least[toLength];
        }
    }

    /** The shapes of the signs. */
    private static final class Shapes {
        private final Ways ways = new Ways();
        private final int[] numbers = new int[SIGNS];
        private final int[][] strokes = new int[SIGNS][MOST_STROKES];
        private final int[] lengths = new int[SIGNS];

        Shapes() {
            for (int sign = 0; sign < SIGNS; sign++) {
                put(sign, 111 + 100 * (sign / 16) + 10 * (sign / 4 % 4) + sign % 4);
            }
        }

        private static int figuresOf(int number) {
            return number < 10 ? 1 : number < 100 ? 2 : number < 1000 ? 3 : 4;
        }

        static boolean isOne(int number) {
            if (number < 1 || number > 9999) {
                return false;
            }
            int rest = number;
            for (int figure = figuresOf(number); figure > 0; figure--) {
                if (rest % 10 < 1 || rest % 10 > STROKES) {
                    return false;
                }
                rest /= 10;
            }
            return true;
        }

        void put(int sign, int number) {
            numbers[sign] = number;
            lengths[sign] = figuresOf(number);
            int rest = number;
            for (int place = lengths[sign] - 1; place >= 0; place--) {
                strokes[sign][place] = rest % 10;
                rest /= 10;
            }
        }

        int between(int sign, int other) {
            return ways.between(strokes[sign], lengths[sign], strokes[other], lengths[other]);
        }

        int leastBetween(long signSet) {
            int least = NONE;
            for (int sign = 0; sign < SIGNS; sign++) {
                for (int other = 0; other < sign; other++) {
                    if (has(signSet, sign) && has(signSet, other)) {
                        int far = between(sign, other);
                        least = least == NONE ? far : Math.min(least, far);
                    }
                }
            }
            return least;
        }

        /** Those of the signs in use that have another sign of the design near to them. */
        long mistaken(long inUse, long signSet, int far) {
            long set = 0;
            for (int sign = 0; sign < SIGNS; sign++) {
                if (has(inUse, sign) && isNearOther(sign, signSet, far)) {
                    set |= 1L << sign;
                }
            }
            return set;
        }

        private boolean isNearOther(int sign, long signSet, int far) {
            for (int other = 0; other < SIGNS; other++) {
                if (other != sign && has(signSet, other) && between(sign, other) <= far) {
                    return true;
                }
            }
            return false;
        }

        int strokesIn(int[] spelling, int length) {
            int sum = 0;
            for (int place = 0; place < length; place++) {
                sum += lengths[spelling[place]];
            }
            return sum;
        }
    }

    /** Counts the rows of syllables that give a spelling. */
    private static final class Reader {
        // How many ways there are to read so much of the spelling: up to whole syllables,
        // to an onset and a vowel, or to a tone.
        private final long[] whole = new long[MOST_SIGNS + 1];
        private final long[] headed = new long[MOST_SIGNS + 1];
        private final long[] toned = new long[MOST_SIGNS + 1];

        /** How many syllables with so many signs stand at each place. */
        private final int[][] standing = new int[MOST_SIGNS][SYLLABLE_SIGNS + 1];
        /** How many rows of so many syllables give the spelling from each place on. */
        private final long[][] behind = new long[MOST_SYLLABLES + 1][MOST_SIGNS + 1];
        private final int[] tried = new int[SYLLABLE_SIGNS];

        long countByUnits(Design design, int[] spelling, int length) {
            long sum = 0;
            Arrays.fill(whole, 0L);
            whole[0] = 1;
            for (int syllables = 1; syllables <= MOST_SYLLABLES; syllables++) {
                readHeads(design, spelling, length);
                readTones(design, spelling, length);
                readCodas(design, spelling, length);
                sum += whole[length];
            }
            return sum;
        }

        private void readHeads(Design design, int[] spelling, int length) {
            headed[0] = 0;
            for (int end = 1; end <= length; end++) {
                int last = spelling[end - 1];
                if (design.kind == PAIRS) {
                    headed[end] = whole[end - 1] * design.unitsWith(last, 0, PAIR_UNITS);
                } else {
                    long starts = whole[end - 1];
                    if (end >= 2) {
                        starts += whole[end - 2] * design.unitsWith(spelling[end - 2], 0, CONSONANTS);
                    }
                    headed[end] = starts * design.unitsWith(last, LETTER_VOWELS, VOWELS);
                }
            }
        }

        private void readTones(Design design, int[] spelling, int length) {
            int unmarked = design.unmarkedTones();
            toned[0] = headed[0] * unmarked;
            for (int end = 1; end <= length; end++) {
                toned[end] = headed[end] * unmarked
                        + headed[end - 1] * design.markedTonesWith(spelling[end - 1]);
            }
        }

        private void readCodas(Design design, int[] spelling, int length) {
            whole[0] = toned[0];
            for (int end = 1; end <= length; end++) {
                int codas = design.unitsWith(spelling[end - 1], design.codaUnits(), CONSONANTS);
                whole[end] = toned[end] + toned[end - 1] * codas;
            }
        }

        long countBySyllables(Design design, int[] spelling, int length) {
            trySyllables(design, spelling, length);
            long sum = 0;
            Arrays.fill(behind[0], 0L);
            behind[0][length] = 1;
            for (int syllables = 1; syllables <= MOST_SYLLABLES; syllables++) {
                behind[syllables][length] = 0;
                for (int place = length - 1; place >= 0; place--) {
                    behind[syllables][place] = countFrom(place, length, behind[syllables - 1]);
                }
                sum += behind[syllables][0];
            }
            return sum;
        }

        private long countFrom(int place, int length, long[] fewer) {
            long sum = 0;
            for (int signs = 1; signs <= SYLLABLE_SIGNS && place + signs <= length; signs++) {
                sum += standing[place][signs] * fewer[place + signs];
            }
            return sum;
        }

        private void trySyllables(Design design, int[] spelling, int length) {
            for (int place = 0; place < length; place++) {
                Arrays.fill(standing[place], 0);
            }
            for (int code = 0; code < CODES; code++) {
                int signs = design.spellSyllable(code, tried, 0);
                for (int place = length - signs; place >= 0; place--) {
                    if (standsAt(place, signs, spelling)) {
                        standing[place][signs]++;
                    }
                }
            }
        }

        private boolean standsAt(int place, int signs, int[] spelling) {
            for (int sign = 0; sign < signs; sign++) {
                if (spelling[place + sign] != tried[sign]) {
                    return false;
                }
            }
            return true;
        }
    }

    /** The orders of the signs in use. */
    private static final class Primer {
        private final long[] signsOf = new long[MOST_WORDS];
        private final int[] weights = new int[MOST_WORDS];
        private int words = 0;
        private long inUse = 0;
        private final int[] order = new int[SIGNS];
        private int length = 0;
        /** The least cost with a set of the signs, told by bits, and one more behind them. */
        private final int[] least = new int[1 << MOST_PRIMED];
        private final int[] learnable = new int[MOST_PRIMED];

        void take(Spellings spellings, int[] allWeights) {
            words = spellings.count;
            inUse = spellings.signsInUse();
            for (int word = 0; word < words; word++) {
                signsOf[word] = spellings.signsOf(word);
                weights[word] = allWeights[word];
            }
        }

        void putInOrder() {
            long learned = 0;
            int signs = Long.bitCount(inUse);
            length = 0;
            while (length < signs && length < SIGNS) {
                int next = nextSign(learned);
                order[length] = next;
                length++;
                learned |= 1L << next;
            }
        }

        private int nextSign(long learned) {
            int best = 0;
            int bestRead = -1;
            int bestHaving = -1;
            for (int sign = 0; sign < SIGNS; sign++) {
                if (has(inUse & ~learned, sign)) {
                    int read = weightRead(learned | 1L << sign);
                    int having = weightUnreadWith(learned, sign);
                    if (read > bestRead || read == bestRead && having > bestHaving) {
                        best = sign;
                        bestRead = read;
                        bestHaving = having;
                    }
                }
            }
            return best;
        }

        private int weightRead(long learned) {
            int sum = 0;
            for (int word = 0; word < words; word++) {
                if ((signsOf[word] & ~learned) == 0) {
                    sum += weights[word];
                }
            }
            return sum;
        }

        private int weightUnreadWith(long learned, int sign) {
            int sum = 0;
            for (int word = 0; word < words; word++) {
                if ((signsOf[word] & ~learned) != 0 && has(signsOf[word], sign)) {
                    sum += weights[word];
                }
            }
            return sum;
        }

        int costOfOrder() {
            int sum = 0;
            for (int word = 0; word < words; word++) {
                int last = 0;
                for (int place = 0; place < length; place++) {
                    if (has(signsOf[word], order[place])) {
                        last = place + 1;
                    }
                }
                sum += weights[word] * last;
            }
            return sum;
        }

        /** Each sign that comes next costs the weight of all words that were not read ahead of it. */
        int leastOfOrders() {
            int signs = listLearnable();
            int all = weightRead(inUse);
            least[0] = all;
            for (int set = 1; set < 1 << signs; set++) {
                int best = NONE;
                for (int sign = 0; sign < signs; sign++) {
                    if ((set >> sign & 1) != 0) {
                        int ahead = least[set ^ 1 << sign];
                        best = best == NONE ? ahead : Math.min(best, ahead);
                    }
                }
                least[set] = best + all - weightRead(signsIn(set, signs));
            }
            return least[(1 << signs) - 1];
        }

        private int listLearnable() {
            int signs = 0;
            for (int sign = 0; sign < SIGNS && signs < MOST_PRIMED; sign++) {
                if (has(inUse, sign)) {
                    learnable[signs] = sign;
                    signs++;
                }
            }
            return signs;
        }

        private long signsIn(int set, int signs) {
            long learned = 0;
            for (int sign = 0; sign < signs; sign++) {
                if ((set >> sign & 1) != 0) {
                    learned |= 1L << learnable[sign];
                }
            }
            return learned;
        }
    }

    /** How often one goes from sign to sign, and what exchanges of keys bring. */
    private static final class Keyboard {
        /** The weight of going from a sign to another one or back. */
        private final int[] going = new int[SIGNS * SIGNS];

        void take(Spellings spellings, int[] weights) {
            Arrays.fill(going, 0);
            for (int word = 0; word < spellings.count; word++) {
                for (int place = 1; place < spellings.lengths[word]; place++) {
                    int sign = spellings.rows[word][place - 1];
                    int next = spellings.rows[word][place];
                    going[SIGNS * sign + next] += weights[word];
                    going[SIGNS * next + sign] += weights[word];
                }
            }
        }

        int bestExchange(long inUse, int[] keys) {
            int best = NONE;
            int bestGrowth = 0;
            for (int lower = 0; lower < SIGNS; lower++) {
                for (int other = lower + 1; other < SIGNS; other++) {
                    if (has(inUse, lower) && has(inUse, other)) {
                        int growth = growthBy(lower, other, keys);
                        if (growth < bestGrowth) {
                            best = 100 * lower + other;
                            bestGrowth = growth;
                        }
                    }
                }
            }
            return best;
        }

        /** By how much the travel would grow; the way between the two signs itself stays. */
        private int growthBy(int lower, int other, int[] keys) {
            int sum = 0;
            for (int sign = 0; sign < SIGNS; sign++) {
                if (sign != lower && sign != other) {
                    int more = distance(keys[other], keys[sign]) - distance(keys[lower], keys[sign]);
                    sum += (going[SIGNS * lower + sign] - going[SIGNS * other + sign]) * more;
                }
            }
            return sum;
        }
    }

    /** The groups and their voting. */
    private static final class Ballot {
        private final int[] people = new int[GROUPS];
        private final int[] worths = new int[GROUPS];
        private final int[] dialects = new int[GROUPS];
        private final int[][] scores = new int[GROUPS][MOST_DESIGNS];
        private final int[] votes = new int[MOST_DESIGNS];
        private final boolean[] isOut = new boolean[MOST_DESIGNS];
        private int designs = 0;

        int allPeople() {
            int sum = 0;
            for (int group = 0; group < GROUPS; group++) {
                sum += people[group];
            }
            return sum;
        }

        void open(int designCount) {
            designs = designCount;
            for (int design = 0; design < MOST_DESIGNS; design++) {
                isOut[design] = false;
            }
        }

        void countVotes() {
            Arrays.fill(votes, 0);
            for (int group = 0; group < GROUPS; group++) {
                int choice = choiceOf(group);
                if (choice != NONE) {
                    votes[choice] += people[group];
                }
            }
        }

        private int choiceOf(int group) {
            int choice = NONE;
            for (int design = 0; design < designs; design++) {
                if (!isOut[design]
                        && (choice == NONE || scores[group][design] < scores[group][choice])) {
                    choice = design;
                }
            }
            return choice;
        }

        /** A round leaves one design out; the last one that is left has all people. */
        int winner() {
            int all = allPeople();
            for (int round = 0; round < MOST_DESIGNS; round++) {
                countVotes();
                for (int design = 0; design < designs; design++) {
                    if (2 * votes[design] > all) {
                        return design;
                    }
                }
                leaveOneOut();
            }
            return NONE;
        }

        private void leaveOneOut() {
            int least = NONE;
            for (int design = 0; design < designs; design++) {
                if (!isOut[design] && (least == NONE || votes[design] <= votes[least])) {
                    least = design;
                }
            }
            if (least != NONE) {
                isOut[least] = true;
            }
        }
    }
}
