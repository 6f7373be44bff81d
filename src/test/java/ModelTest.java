import java.util.ArrayDeque;
import java.util.Deque;
import java.util.Random;

/** Long runs of calls, each compared with the Model; the seeds are fixed, so every run is the same. */
public final class ModelTest {
    private static final int RUNS = 150;
    private static final int CALLS = 512;

    private final Check check = new Check("ModelTest");
    private final Deque<String> last = new ArrayDeque<>();
    private Letterforge forge;
    private Model model;
    private Random random;
    /** How many values of onset, vowel and coda a run uses, and how many signs it gives. */
    private int narrow;
    private int wrongRate;

    public static void main(String[] args) {
        new ModelTest().test();
    }

    private void test() {
        for (int run = 0; run < RUNS; run++) {
            random = new Random(7919L * run + 17);
            narrow = run % 3;
            wrongRate = run % 5 == 0 ? 5 : 30;
            forge = new Letterforge();
            model = new Model();
            for (int call = 0; call < CALLS; call++) {
                // Words and designs come mostly early, so that most asking is about many of them.
                step(run, call < 90 && random.nextInt(8) < 6 ? random.nextInt(9) : random.nextInt(34));
            }
        }
        check.end();
    }

    /** Mostly from 0 to most, sometimes outside, near or far. */
    private int upTo(int most) {
        if (random.nextInt(wrongRate) == 0) {
            int[] odd = {-1, most + 1, -2, most + 2, Integer.MAX_VALUE, Integer.MIN_VALUE, -most, 0, most};
            return odd[random.nextInt(odd.length)];
        }
        return random.nextInt(most + 1);
    }

    private int code() {
        if (narrow == 0 || random.nextInt(wrongRate) == 0) {
            return upTo(971);
        }
        int onset = random.nextBoolean() ? 8 : random.nextInt(narrow);
        int coda = random.nextBoolean() ? 8 : random.nextInt(narrow);
        return 108 * onset + 27 * random.nextInt(narrow) + 3 * coda + random.nextInt(narrow + 1);
    }

    private int value(int part) {
        int most = part == 1 ? 3 : part == 3 ? 2 : 8;
        return narrow > 0 && random.nextBoolean() ? random.nextInt(2) : upTo(most);
    }

    private int unit() {
        int[] few = {0, 1, 8, 9, 32, 33, 36, 37, 44, 45, 46};
        return random.nextInt(3) == 0 ? upTo(46) : few[random.nextInt(few.length)];
    }

    private int sign() {
        return random.nextBoolean() ? upTo(5) : upTo(49);
    }

    private int shape() {
        if (random.nextInt(4) == 0) {
            int[] odd = {0, -1, 5, 10, 41, 44, 45, 144, 150, 1111, 1141, 4444, 4445, 5111, 11111, 1011, -11,
                Integer.MAX_VALUE, Integer.MIN_VALUE};
            return odd[random.nextInt(odd.length)];
        }
        int shape = 0;
        int strokes = 1 + random.nextInt(4);
        for (int i = 0; i < strokes; i++) {
            shape = 10 * shape + 1 + random.nextInt(4);
        }
        return shape;
    }

    private int weight() {
        return random.nextInt(4) == 0 ? 1 + random.nextInt(3) : upTo(999);
    }

    private void step(int run, int kind) {
        int a;
        int b;
        int c;
        int d;
        boolean is = random.nextBoolean();
        switch (kind) {
            case 0: case 1: case 2:
                a = code();
                compare(run, "syllable(" + a + ")", () -> forge.syllable(a), () -> model.syllable(a));
                break;
            case 3: case 4:
                a = weight();
                compare(run, "word(" + a + ")", () -> forge.word(a), () -> model.word(a));
                break;
            case 5:
                a = upTo(2);
                b = upTo(3);
                c = value(b);
                d = value(b);
                compare(run, "change(" + a + ", " + b + ", " + c + ", " + d + ", " + is + ")",
                        () -> forge.change(a, b, c, d, is), () -> model.change(a, b, c, d, is));
                break;
            case 6:
                a = upTo(1);
                b = upTo(3) - 1;
                compare(run, "design(" + a + ", " + b + ")", () -> forge.design(a, b), () -> model.design(a, b));
                break;
            case 7:
                a = upTo(4);
                b = unit();
                c = sign();
                compare(run, "assign(" + a + ", " + b + ", " + c + ", " + is + ")",
                        () -> forge.assign(a, b, c, is), () -> model.assign(a, b, c, is));
                break;
            case 8:
                a = upTo(4);
                b = upTo(2);
                compare(run, "mark(" + a + ", " + b + ", " + is + ")",
                        () -> forge.mark(a, b, is), () -> model.mark(a, b, is));
                break;
            default:
                ask(run, kind);
                break;
        }
    }

    private void ask(int run, int kind) {
        int a = upTo(4);
        int b = upTo(4);
        int w = upTo(19);
        int p = upTo(17);
        int s = upTo(49);
        int t = upTo(49);
        int people = upTo(999);
        int worths = upTo(999);
        int dialect = upTo(2);
        int speaker = upTo(3) - 1;
        int group = upTo(3);
        int shape = shape();
        switch (kind) {
            case 9:
                compare(run, "spoken(" + speaker + ", " + w + ", " + p + ")",
                        () -> forge.spoken(speaker, w, p), () -> model.spoken(speaker, w, p));
                break;
            case 10:
                compare(run, "spelled(" + a + ", " + w + ", " + p + ")",
                        () -> forge.spelled(a, w, p), () -> model.spelled(a, w, p));
                break;
            case 11:
                compare(run, "doubts(" + a + ")", () -> forge.doubts(a), () -> model.doubts(a));
                break;
            case 12:
                compare(run, "load(" + a + ")", () -> forge.load(a), () -> model.load(a));
                break;
            case 13:
                compare(run, "loadIf(" + a + ", " + dialect + ")",
                        () -> forge.loadIf(a, dialect), () -> model.loadIf(a, dialect));
                break;
            case 14:
                compare(run, "readings(" + a + ", " + w + ")",
                        () -> forge.readings(a, w), () -> model.readings(a, w));
                break;
            case 15:
                compare(run, "readingsAnew(" + a + ", " + w + ")",
                        () -> forge.readingsAnew(a, w), () -> model.readings(a, w));
                break;
            case 16:
                compare(run, "fit(" + a + ", " + dialect + ")",
                        () -> forge.fit(a, dialect), () -> model.fit(a, dialect));
                break;
            case 17:
                compare(run, "shape(" + s + ", " + shape + ")",
                        () -> forge.shape(s, shape), () -> model.shape(s, shape));
                break;
            case 18:
                compare(run, "apart(" + s + ", " + t + ")", () -> forge.apart(s, t), () -> model.apart(s, t));
                break;
            case 19:
                compare(run, "clear(" + a + ")", () -> forge.clear(a), () -> model.clear(a));
                break;
            case 20:
                compare(run, "errors(" + a + ", " + b + ")", () -> forge.errors(a, b), () -> model.errors(a, b));
                break;
            case 21:
                compare(run, "primer(" + a + ", " + p + ")", () -> forge.primer(a, p), () -> model.primer(a, p));
                break;
            case 22:
                compare(run, "cost(" + a + ")", () -> forge.cost(a), () -> model.cost(a));
                break;
            case 23:
                compare(run, "leastCost(" + a + ")", () -> forge.leastCost(a), () -> model.leastCost(a));
                break;
            case 24: case 32:
                compare(run, "key(" + a + ", " + s + ", " + t + ")",
                        () -> forge.key(a, s, t), () -> model.key(a, s, t));
                break;
            case 25:
                compare(run, "travel(" + a + ")", () -> forge.travel(a), () -> model.travel(a));
                break;
            case 26:
                compare(run, "exchange(" + a + ")", () -> forge.exchange(a), () -> model.exchange(a));
                break;
            case 27: case 33:
                compare(run, "group(" + group + ", " + people + ", " + worths + ", " + dialect + ")",
                        () -> forge.group(group, people, worths, dialect),
                        () -> model.group(group, people, worths, dialect));
                break;
            case 28:
                compare(run, "score(" + group + ", " + a + ")",
                        () -> forge.score(group, a), () -> model.score(group, a));
                break;
            case 29:
                compare(run, "votes(" + a + ")", () -> forge.votes(a), () -> model.votes(a));
                break;
            case 30:
                compare(run, "elected()", () -> forge.elected(), () -> model.elected());
                break;
            default:
                if (random.nextBoolean()) {
                    compare(run, "reform(" + a + ", " + b + ")",
                            () -> forge.reform(a, b), () -> model.reform(a, b));
                } else {
                    compare(run, "lost(" + a + ", " + b + ")", () -> forge.lost(a, b), () -> model.lost(a, b));
                }
                break;
        }
    }

    private void compare(int run, String call, Check.Call asked, Check.Call due) {
        check.due("run " + run + ": " + call, Check.told(due), asked);
    }
}
