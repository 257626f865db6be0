/** Promises 8 to 12: needs, open, begin, set, answer; with them when a lesson is done. */
public final class CourseTest {
    private static final int NONE = AskedBack.NONE;
    private static final Due DUE = new Due();

    public static void main(String[] args) {
        needs();
        open();
        begin();
        beginAnew();
        set();
        answer();
        done();
        doneByFewer();
        DUE.end();
    }

    private static void needs() {
        AskedBack x = new AskedBack();
        int[][] outside = {{-1, 0}, {0, -1}, {6, 0}, {0, 6}, {Integer.MIN_VALUE, Integer.MAX_VALUE}};
        for (int[] call : outside) {
            DUE.no("needs " + call[0] + " " + call[1], x.needs(call[0], call[1]));
        }
        DUE.no("needs itself", x.needs(3, 3));
        DUE.yes("needs", x.needs(0, 1));
        DUE.no("it's so", x.needs(0, 1));
        DUE.no("a ring of two", x.needs(1, 0));
        DUE.yes("a chain of three", x.needs(1, 2));
        DUE.no("a ring of three", x.needs(2, 0));
        DUE.yes("what is so by way of another", x.needs(0, 2));
        DUE.yes("a longer chain", x.needs(2, 3));
        DUE.yes("a longer chain", x.needs(3, 4));
        DUE.yes("a longer chain", x.needs(4, 5));
        DUE.no("a ring of six", x.needs(5, 0));
        DUE.no("a ring of five", x.needs(5, 1));
        DUE.yes("far down the chain", x.needs(0, 5));

        AskedBack down = new AskedBack();
        for (int lesson = 5; lesson > 0; lesson--) {
            DUE.yes("a chain the other way", down.needs(lesson, lesson - 1));
        }
        DUE.no("a ring the other way", down.needs(0, 5));
        DUE.no("a ring within", down.needs(2, 4));
    }

    private static void open() {
        AskedBack x = new AskedBack();
        Due.law(x, 4, "a");
        DUE.is("the one with a law", x.open(), 4);
        Due.picture(x, 0, "a");
        DUE.is("a picture is no law", x.open(), 4);
        Due.law(x, 2, "a");
        DUE.is("the least", x.open(), 2);
        x.begin(2);
        DUE.is("one that is begun is open too", x.open(), 2);
        x.needs(2, 4);
        DUE.is("what needs another is not", x.open(), 4);
        x.begin(4);
        x.set(2, 1);
        x.answer(0, 0);
        DUE.is("once that is done", x.open(), 2);
        x.needs(2, 5);
        DUE.is("it needs one without a law", x.open(), NONE);
        Due.law(x, 0, "a");
        DUE.is("the first of all", x.open(), 0);
    }

    private static void begin() {
        AskedBack x = Due.quick();
        DUE.no("begin -1", x.begin(-1));
        DUE.no("begin 6", x.begin(6));
        DUE.no("begin far outside", x.begin(Integer.MAX_VALUE));
        x.needs(1, 0);
        x.needs(1, 3);
        DUE.no("begin what needs two", x.begin(1));
        DUE.is("nothing is begun", x.count(0), NONE);
        DUE.yes("begin the one", x.begin(0));
        x.answer(0, 1);
        DUE.no("begin what still needs one", x.begin(1));
        DUE.is("the one before stays", x.count(0), 0);
        DUE.is("its answers stay", x.count(1), 1);
        DUE.no("begin what is done", x.begin(0));
        x.begin(3);
        x.answer(0, 1);
        DUE.yes("begin what it needs is done of", x.begin(1));
        DUE.is("it is begun", x.count(0), 1);
        DUE.is("two are done", x.count(6), 9);
        DUE.no("without a law", new AskedBack().begin(0));
    }

    private static void beginAnew() {
        AskedBack x = Due.begun("a", "b");
        Due.law(x, 1, "b");
        x.set(0, 1);
        x.set(1, 1);
        for (int turn = 0; turn < 2; turn++) {
            x.answer(1, 0);
            x.answer(2, 1);
            Due.say(x, "c");
            Due.feed(x, "a");
            DUE.is("answers", x.count(1), 2);
            DUE.yes("begin", x.begin(turn));
            DUE.is("begun", x.count(0), turn);
            for (int what = 1; what <= 3; what++) {
                DUE.is("gone: count " + what, x.count(what), 0);
            }
            for (int c = 0; c < 32; c++) {
                DUE.is("gone: asked " + c, x.caseOf(c, 0), 0);
                DUE.is("gone: wrong " + c, x.caseOf(c, 1), 0);
                DUE.is("gone: latest " + c, x.caseOf(c, 2), NONE);
            }
            DUE.is("gone: clash", x.clash(0), NONE);
            DUE.is("the tape stays", x.count(7), 20);
            x.judge(1);
        }
        x.answer(1, 1);
        DUE.is("what was set stays", x.reveal(1), 0);
        x.begin(0);
        x.answer(1, 1);
        x.answer(3, 1);
        x.begin(1);
        x.answer(2, 1);
        DUE.is("right answers of a lesson left don't count", x.count(5), 0);
    }

    private static void set() {
        int[][] ranges = {{0, 0, 3}, {1, 1, 5}, {2, 1, 8}};
        AskedBack x = new AskedBack();
        for (int[] range : ranges) {
            for (int value = -2; value <= 10; value++) {
                boolean due = value >= range[1] && value <= range[2];
                DUE.is("set " + range[0] + " " + value, x.set(range[0], value) ? 1 : 0, due ? 1 : 0);
            }
            DUE.no("set far outside", x.set(range[0], Integer.MIN_VALUE));
            DUE.no("set far outside", x.set(range[0], Integer.MAX_VALUE));
        }
        DUE.no("set 3", x.set(3, 1));
        DUE.no("set -1", x.set(-1, 1));
        DUE.no("set far outside", x.set(Integer.MAX_VALUE, 1));

        AskedBack kept = Due.begun("1", "0");
        kept.set(0, 2);
        kept.set(0, 4);
        kept.set(0, -1);
        kept.set(2, 8);
        kept.set(2, 9);
        kept.set(2, 0);
        kept.answer(0, 1);
        kept.answer(1, 1);
        DUE.is("what was refused changes nothing", kept.count(4), 1);
        DUE.is("nor the end", kept.count(5), 0);
        kept.answer(2, 1);
        DUE.is("three slips are too many", kept.count(4), 0);
    }

    private static void answer() {
        AskedBack none = new AskedBack();
        DUE.is("answer without a lesson", none.answer(0, 0), NONE);
        DUE.is("nothing is counted", none.count(1), 0);
        AskedBack x = Due.begun("a&b");
        x.set(2, 8);
        DUE.is("right 1", x.answer(3, 1), 1);
        DUE.is("wrong 0", x.answer(3, 0), 0);
        DUE.is("wrong 1", x.answer(1, 1), 0);
        DUE.is("right 0", x.answer(1, 0), 1);
        DUE.is("the last case", x.answer(31, 1), 1);
        int[][] refused = {{-1, 0}, {32, 0}, {0, 2}, {0, -1}, {Integer.MIN_VALUE, 0}, {0, Integer.MAX_VALUE}};
        for (int[] call : refused) {
            DUE.is("answer " + call[0] + " " + call[1], x.answer(call[0], call[1]), NONE);
        }
        DUE.is("what was refused is not counted", x.count(1), 5);
        for (int given = 5; given < 40; given++) {
            DUE.is("answer " + given, x.answer(0, 1), 0);
        }
        DUE.is("forty", x.count(1), 40);
        DUE.is("one more", x.answer(2, 0), NONE);
        DUE.is("still forty", x.count(1), 40);
        DUE.is("case 2 was not asked", x.caseOf(2, 0), 0);
    }

    private static void done() {
        AskedBack x = Due.begun("a");
        x.answer(0, 0);
        x.answer(1, 1);
        x.answer(1, 1);
        DUE.is("a case asked before", x.count(5), 0);
        x.answer(2, 0);
        x.answer(3, 1);
        x.answer(4, 1);
        DUE.is("a wrong answer", x.count(5), 0);
        x.answer(5, 1);
        x.answer(6, 0);
        x.answer(4, 0);
        DUE.is("a case asked before, wrongly", x.count(5), 0);
        x.answer(7, 1);
        x.answer(8, 0);
        DUE.is("two are too few", x.count(5), 0);
        DUE.is("the third", x.answer(9, 1), 1);
        DUE.is("done", x.count(5), 1);
        DUE.is("done, as bits", x.count(6), 1);
        DUE.is("no answer any more", x.answer(10, 0), NONE);
        DUE.is("none is counted", x.count(1), 12);
        DUE.is("it is still begun", x.count(0), 0);
        x.set(2, 8);
        DUE.is("done stays so", x.count(5), 1);
        Due.law(x, 3, "a");
        x.begin(3);
        DUE.is("another is not done", x.count(5), 0);
        DUE.is("the first still is", x.count(6), 1);
        DUE.no("and can't be begun", x.begin(0));

        AskedBack eight = Due.begun("0");
        eight.set(2, 8);
        for (int c = 0; c < 8; c++) {
            DUE.is("not done ahead of eight", eight.count(5), 0);
            eight.answer(c, 0);
        }
        DUE.is("done by eight", eight.count(5), 1);
    }

    private static void doneByFewer() {
        AskedBack x = Due.begun("a");
        x.answer(0, 0);
        x.answer(1, 1);
        DUE.is("two of three", x.count(5), 0);
        x.set(2, 2);
        DUE.is("the latest two were right", x.count(5), 1);
        DUE.is("so it is done", x.answer(2, 0), NONE);
        x.set(2, 3);
        DUE.is("it stays done", x.count(6), 1);

        AskedBack wrong = Due.begun("a");
        wrong.answer(0, 0);
        wrong.answer(1, 0);
        wrong.set(2, 1);
        DUE.is("the latest was wrong", wrong.count(5), 0);
        AskedBack none = Due.begun("a");
        none.set(2, 1);
        DUE.is("no answer is given", none.count(5), 0);
        new AskedBack().set(2, 1);
    }
}
