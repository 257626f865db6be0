import java.util.Random;

/** Long runs of calls, drawn from fixed seeds, on the class and on the plain model beside it. */
public final class RandomRunsTest {
    private static final int RUNS = 400;
    private static final int CALLS = 512;

    private final Due due = new Due();
    private final Random random;
    private final int seed;
    private final AskedBack x = new AskedBack();
    private final PlainModel model = new PlainModel();
    private int calls = 0;

    private RandomRunsTest(int seed) {
        this.seed = seed;
        random = new Random(seed);
    }

    public static void main(String[] args) {
        for (int seed = 0; seed < RUNS; seed++) {
            RandomRunsTest run = new RandomRunsTest(seed);
            // Some runs go on from an object that has nothing yet.
            if (seed % 8 != 0) {
                run.prepare();
            }
            while (run.calls < CALLS) {
                run.step();
            }
            if (seed == RUNS - 1) {
                run.due.end();
            }
        }
    }

    private void check(String call, long got, long want) {
        calls++;
        if (got != want) {
            due.is("seed " + seed + ", call " + calls + ": " + call, got, want);
            due.end();
        }
    }

    private void check(String call, boolean got, boolean want) {
        check(call, got ? 1 : 0, want ? 1 : 0);
    }

    /** A number from 0 to most, now and then one that is just or far outside. */
    private int draw(int most) {
        switch (random.nextInt(40)) {
            case 0:
                return -1 - random.nextInt(3);
            case 1:
                return most + 1 + random.nextInt(2);
            case 2:
                return random.nextBoolean() ? Integer.MIN_VALUE : Integer.MAX_VALUE;
            default:
                return random.nextInt(most + 1);
        }
    }

    private int drawLesson() {
        return random.nextInt(3) == 0 ? draw(5) : draw(1);
    }

    private String drawFormula(int size) {
        if (size <= 1) {
            return String.valueOf("abcdeabcde01".charAt(random.nextInt(12)));
        }
        switch (random.nextInt(8)) {
            case 0:
                return "!" + drawFormula(size - 1);
            case 1:
                return "(" + drawFormula(size - 1) + ")";
            case 2:
                return "!(" + drawFormula(size - 1) + ")";
            case 3:
                return "!".repeat(random.nextInt(10)) + drawFormula(1);
            default:
                int one = 1 + random.nextInt(size - 1);
                String sign = String.valueOf("|^&".charAt(random.nextInt(3)));
                String left = drawFormula(one);
                String right = drawFormula(size - one);
                return random.nextBoolean() ? "(" + left + ")" + sign + "(" + right + ")" : left + sign + right;
        }
    }

    private String drawText() {
        StringBuilder text = new StringBuilder(drawFormula(1 + random.nextInt(8)));
        while (random.nextInt(3) == 0) {
            text.insert(random.nextInt(text.length() + 1), random.nextBoolean() ? ' ' : '\n');
        }
        if (random.nextInt(6) == 0) {
            text.insert(random.nextInt(text.length() + 1), "()!|^&abf01\t\u00e9\u0000\u00ff2E".charAt(random.nextInt(17)));
        }
        if (random.nextInt(6) == 0 && text.length() > 1) {
            text.deleteCharAt(random.nextInt(text.length()));
        }
        return text.toString();
    }

    /** Gives two or three lessons their laws and pictures, and begins one. */
    private void prepare() {
        int lessons = 2 + random.nextInt(2);
        for (int lesson = 0; lesson < lessons; lesson++) {
            int n = feedText(drawFormula(1 + random.nextInt(8)));
            check("law(" + lesson + ", " + n + ")", x.law(lesson, n), model.law(lesson, n));
            int pictures = random.nextInt(14);
            for (int k = 0; k < pictures; k++) {
                n = feedText(drawFormula(1 + random.nextInt(6)));
                check("picture(" + lesson + ", " + n + ")", x.picture(lesson, n), model.picture(lesson, n));
            }
        }
        int fresh = 1 + random.nextInt(8);
        check("set(2, " + fresh + ")", x.set(2, fresh), model.set(2, fresh));
        check("begin(0)", x.begin(0), model.begin(0));
    }

    private int feedText() {
        int n = feedText(drawText());
        return random.nextInt(20) == 0 ? draw(60) : n;
    }

    private int feedText(String drawn) {
        String text = drawn.length() > 60 ? drawn.substring(0, 60) : drawn;
        for (int from = 0; from < text.length(); from += 20) {
            int[] n = Due.numbers(text, from);
            check("feed", x.feed(n[0], n[1], n[2], n[3], n[4]), model.feed(n));
        }
        return text.length();
    }

    private void step() {
        if (model.open() >= 0 && (model.count(0) == -1 || model.count(5) == 1) && random.nextInt(4) == 0) {
            int lesson = model.open();
            check("begin(" + lesson + ")", x.begin(lesson), model.begin(lesson));
        }
        // A full tape would make most of the calls that read nothing.
        if (model.count(7) > 40 && random.nextInt(2) == 0) {
            check("judge(0)", x.judge(0), model.judge(0));
            check("picture(5, 0)", x.picture(5, 0), model.picture(5, 0));
        }
        switch (random.nextInt(10)) {
            case 0:
                stepText();
                break;
            case 1:
                stepSaid();
                break;
            case 2:
                stepCourse();
                break;
            case 3:
            case 4:
            case 5:
                stepAnswer();
                break;
            default:
                stepLook();
                break;
        }
    }

    private void stepText() {
        int n = feedText();
        int lesson = drawLesson();
        if (random.nextInt(4) == 0) {
            check("law(" + lesson + ", " + n + ")", x.law(lesson, n), model.law(lesson, n));
        } else {
            check("picture(" + lesson + ", " + n + ")", x.picture(lesson, n), model.picture(lesson, n));
        }
        check("fault()", x.fault(), model.fault());
    }

    private void stepSaid() {
        int n = feedText();
        if (random.nextInt(3) == 0) {
            check("judge(" + n + ")", x.judge(n), model.judge(n));
        } else {
            check("say(" + n + ")", x.say(n), model.say(n));
        }
        check("fault()", x.fault(), model.fault());
        for (int what = -1; what <= 3; what++) {
            check("clash(" + what + ")", x.clash(what), model.clash(what));
        }
    }

    private void stepCourse() {
        int lesson = drawLesson();
        int other = drawLesson();
        int what = draw(2);
        int value = draw(8);
        switch (random.nextInt(8)) {
            case 0:
                check("needs(" + lesson + ", " + other + ")", x.needs(lesson, other), model.needs(lesson, other));
                break;
            case 1:
            case 2:
            case 3:
                check("set(" + what + ", " + value + ")", x.set(what, value), model.set(what, value));
                break;
            case 4:
                check("open()", x.open(), model.open());
                break;
            default:
                if (random.nextInt(8) == 0) {
                    check("begin(" + lesson + ")", x.begin(lesson), model.begin(lesson));
                }
                break;
        }
    }

    private void stepAnswer() {
        int c = random.nextInt(3) == 0 ? model.next() : random.nextInt(3) == 0 ? draw(7) : draw(31);
        int due = model.tells(model.count(0), -1, c);
        int value = random.nextInt(6) == 0 ? draw(1) : random.nextInt(4) == 0 ? 1 - due : due;
        check("answer(" + c + ", " + value + ")", x.answer(c, value), model.answer(c, value));
        check("count(5)", x.count(5), model.count(5));
        check("reveal(" + c + ")", x.reveal(c), model.reveal(c));
    }

    private void stepLook() {
        int c = draw(31);
        int k = draw(11);
        int what = draw(2);
        int lesson = drawLesson();
        int picture = random.nextInt(3) == 0 ? -1 : draw(4);
        int i = draw(12);
        int number = draw(7);
        check("tells(" + lesson + ", " + picture + ", " + c + ")", x.tells(lesson, picture, c),
            model.tells(lesson, picture, c));
        check("written(" + lesson + ", " + picture + ", " + i + ")", x.written(lesson, picture, i),
            model.written(lesson, picture, i));
        check("pictureOf(" + k + ", " + what + ")", x.pictureOf(k, what), model.pictureOf(k, what));
        check("next()", x.next(), model.next());
        check("bridge(" + c + ")", x.bridge(c), model.bridge(c));
        check("caseOf(" + c + ", " + what + ")", x.caseOf(c, what), model.caseOf(c, what));
        check("count(" + number + ")", x.count(number), model.count(number));
        if (random.nextInt(8) == 0) {
            check("longest()", x.longest(), model.longest());
        }
    }
}
