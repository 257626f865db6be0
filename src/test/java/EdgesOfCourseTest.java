/** The boundary cases that the promises 8 to 12 name, a method for each sentence. */
public final class EdgesOfCourseTest {
    private static final int NONE = AskedBack.NONE;
    private static final int MIN = Integer.MIN_VALUE;
    private static final int MAX = Integer.MAX_VALUE;
    private static final Due DUE = new Due();

    public static void main(String[] args) {
        needsFirst();
        needsNotAsTold();
        needsThatAreSo();
        needsInARing();
        openTheLeast();
        openNone();
        beginLeavesTheOther();
        beginAgain();
        beginRefused();
        setSlips();
        setWrongAnswers();
        setFresh();
        setNotAsTold();
        answerRightOrWrong();
        answerWithoutALesson();
        answerWhenDone();
        answerNotAsTold();
        answerWhenFortyAreThere();
        DUE.end();
    }

    private static void end(AskedBack x, int lesson) {
        DUE.yes("begin " + lesson, x.begin(lesson));
        DUE.is("the one answer for " + lesson, x.answer(0, 1), 1);
    }

    private static void needsFirst() {
        DUE.sentence("8. LESSON a needs b first: true");
        // Each order of telling two needs, so that neither takes the other's place.
        int[][] orders = {{0, 5}, {5, 0}};
        for (int[] order : orders) {
            AskedBack x = Due.quick();
            DUE.yes("the one", x.needs(3, order[0]));
            DUE.yes("the other", x.needs(3, order[1]));
            DUE.no("with none done", x.begin(3));
            end(x, 0);
            DUE.no("with 0 done", x.begin(3));
            end(x, 5);
            DUE.yes("with both done", x.begin(3));
        }
        AskedBack all = Due.quick();
        for (int other = 1; other < 6; other++) {
            DUE.yes("all five others", all.needs(0, other));
        }
        for (int other = 5; other > 0; other--) {
            DUE.no("not yet", all.begin(0));
            end(all, other);
        }
        DUE.yes("all are done", all.begin(0));
        AskedBack begun = Due.quick();
        begun.begin(0);
        DUE.yes("of one that is begun", begun.needs(0, 1));
        DUE.is("it stays begun", begun.count(0), 0);
        DUE.is("and is answered", begun.answer(0, 1), 1);
        DUE.yes("of one that is done", begun.needs(0, 2));
        DUE.is("it stays done", begun.count(6), 1);
        DUE.yes("without laws", new AskedBack().needs(5, 4));
    }

    private static void needsNotAsTold() {
        DUE.sentence("8. False, doing nothing: not as told (unlike)");
        AskedBack x = Due.quick();
        int[] outside = {-1, 6, 31, 32, 33, MIN, MAX};
        for (int lesson : outside) {
            DUE.no("needs " + lesson, x.needs(1, lesson));
            DUE.no(lesson + " needs", x.needs(lesson, 1));
            DUE.no(lesson + " twice", x.needs(lesson, lesson));
        }
        for (int lesson = 0; lesson < 6; lesson++) {
            DUE.no("itself", x.needs(lesson, lesson));
        }
        for (int lesson = 0; lesson < 6; lesson++) {
            DUE.yes("so nothing is needed by " + lesson, x.begin(lesson));
        }
    }

    private static void needsThatAreSo() {
        DUE.sentence("8. it's so");
        AskedBack x = Due.quick();
        DUE.yes("once", x.needs(4, 2));
        DUE.no("twice", x.needs(4, 2));
        end(x, 2);
        DUE.no("when it's done", x.needs(4, 2));
        DUE.yes("one done is enough", x.begin(4));
    }

    private static void needsInARing() {
        DUE.sentence("8. there would be a ring");
        for (int length = 2; length <= 6; length++) {
            AskedBack up = Due.quick();
            AskedBack down = Due.quick();
            for (int i = 0; i + 1 < length; i++) {
                DUE.yes("a chain upwards", up.needs(i, i + 1));
                DUE.yes("a chain downwards", down.needs(i + 1, i));
            }
            DUE.no("a ring of " + length, up.needs(length - 1, 0));
            DUE.no("a ring of " + length + " downwards", down.needs(0, length - 1));
            DUE.yes("nothing was done", up.begin(length - 1));
            DUE.yes("nothing was done downwards", down.begin(0));
        }
        AskedBack mixed = new AskedBack();
        int[][] chain = {{2, 5}, {5, 0}, {0, 3}, {3, 1}, {1, 4}};
        for (int[] need : chain) {
            DUE.yes("a chain without an order", mixed.needs(need[0], need[1]));
        }
        DUE.no("a ring without an order", mixed.needs(4, 2));
        AskedBack done = Due.quick();
        done.needs(0, 1);
        end(done, 1);
        end(done, 0);
        DUE.no("a ring of those that are done", done.needs(1, 0));
        AskedBack fork = new AskedBack();
        DUE.yes("a fork", fork.needs(0, 1) && fork.needs(0, 2) && fork.needs(1, 3) && fork.needs(2, 3));
        DUE.no("a ring by way of both", fork.needs(3, 0));
    }

    private static void openTheLeast() {
        DUE.sentence("9. The least LESSON with a law that isn't DONE and whose needed ones are");
        AskedBack x = Due.quick();
        x.needs(0, 5);
        for (int lesson = 1; lesson < 6; lesson++) {
            DUE.is("open", x.open(), lesson);
            end(x, lesson);
        }
        DUE.is("the first, once 5 is done", x.open(), 0);
        x.begin(0);
        DUE.is("it's open while it's begun", x.open(), 0);
    }

    private static void openNone() {
        DUE.sentence("9. NONE: none");
        DUE.is("no laws", new AskedBack().open(), NONE);
        AskedBack x = Due.quick();
        for (int lesson = 0; lesson < 6; lesson++) {
            end(x, lesson);
        }
        DUE.is("all are done", x.open(), NONE);
        DUE.is("all as bits", x.count(6), 63);
        AskedBack waits = new AskedBack();
        Due.law(waits, 0, "a");
        waits.needs(0, 1);
        DUE.is("what it needs has no law", waits.open(), NONE);
    }

    private static void beginLeavesTheOther() {
        DUE.sentence("10. A LESSON is begun (the one that was is left; ANSWERS, SAID are gone): true");
        AskedBack x = Due.begun("a", "a");
        Due.law(x, 5, "b");
        Due.picture(x, 5, "b");
        x.answer(31, 1);
        x.answer(0, 0);
        Due.say(x, "0");
        Due.feed(x, "a");
        DUE.is("a clash", x.clash(0), 31);
        DUE.yes("another", x.begin(5));
        DUE.is("it's begun", x.count(0), 5);
        for (int what = 1; what <= 3; what++) {
            DUE.is("count " + what, x.count(what), 0);
        }
        DUE.is("no clash", x.clash(0), NONE);
        DUE.is("not asked", x.caseOf(31, 0), 0);
        DUE.is("no latest", x.caseOf(31, 2), NONE);
        DUE.is("no slips", x.pictureOf(0, 0), 0);
        DUE.is("the tape stays", x.count(7), 20);
        x.answer(2, 1);
        DUE.is("right ones don't go with it", x.count(5), 0);
        DUE.yes("the first anew", x.begin(0));
        DUE.is("its answers are gone for good", x.count(1), 0);
        x.set(0, 1);
        x.set(1, 1);
        x.set(2, 2);
        x.begin(5);
        x.answer(2, 0);
        DUE.is("the slips let stay as they were set", x.count(4), 1);
        DUE.is("so do the wrong answers", x.reveal(2), 1);
        x.answer(0, 0);
        x.answer(1, 0);
        DUE.is("so does N", x.count(5), 1);
    }

    private static void beginAgain() {
        DUE.sentence("10. ANSWERS, SAID are gone");
        AskedBack x = Due.begun("1", "0");
        for (int given = 0; given < 40; given++) {
            x.answer(given % 32, 0);
        }
        for (int number = 0; number < 10; number++) {
            Due.say(x, "a");
        }
        DUE.yes("the one that is begun", x.begin(0));
        DUE.is("no answers", x.count(1), 0);
        DUE.is("nothing said", x.count(3), 0);
        for (int c = 0; c < 32; c++) {
            DUE.is("asked " + c, x.caseOf(c, 0), 0);
            DUE.is("wrong " + c, x.caseOf(c, 1), 0);
            DUE.is("latest " + c, x.caseOf(c, 2), NONE);
        }
        x.answer(0, 1);
        x.answer(1, 1);
        x.begin(0);
        x.answer(2, 1);
        DUE.is("nor do right ones stay", x.count(5), 0);
        x.answer(0, 1);
        x.answer(1, 1);
        DUE.is("the cases are fresh", x.count(5), 1);
    }

    private static void beginRefused() {
        DUE.sentence("10. False, doing nothing: no law, DONE, one that it needs isn't");
        AskedBack x = new AskedBack();
        Due.picture(x, 0, "a");
        DUE.no("no law", x.begin(0));
        DUE.is("none is begun", x.count(0), NONE);
        int[] laws = {1, 2, 3};
        for (int lesson : laws) {
            Due.law(x, lesson, "1");
        }
        x.set(2, 1);
        x.needs(3, 2);
        end(x, 1);
        DUE.no("done, and begun", x.begin(1));
        DUE.is("it stays", x.count(0), 1);
        DUE.is("so do its answers", x.count(1), 1);
        x.begin(2);
        x.answer(9, 0);
        Due.say(x, "a");
        int[] refused = {0, 1, 3, 4, -1, 6, 32, 34, MIN, MAX};
        for (int lesson : refused) {
            DUE.no("begin " + lesson, x.begin(lesson));
            DUE.is("the one begun", x.count(0), 2);
            DUE.is("its answers", x.caseOf(9, 1), 1);
            DUE.is("what was said", x.count(3), 1);
        }
        x.answer(0, 1);
        DUE.yes("what it needs is done", x.begin(3));
    }

    private static void setSlips() {
        DUE.sentence("11. SLIPS let (what 0; 0 to 3): true; false: not as told");
        AskedBack x = Due.begun("1", "0");
        x.set(2, 8);
        for (int slips = 1; slips <= 3; slips++) {
            x.answer(slips, 1);
        }
        DUE.yes("3", x.set(0, 3));
        int[] outside = {-1, 4, 5, 32, MIN, MAX};
        for (int value : outside) {
            DUE.no("set " + value, x.set(0, value));
            DUE.is("3 are let still", x.count(4), 1);
        }
        DUE.yes("2", x.set(0, 2));
        DUE.is("2 are let", x.count(4), 0);
        DUE.yes("0", x.set(0, 0));
        x.begin(0);
        DUE.is("0 are let", x.count(4), 1);
        x.answer(0, 1);
        DUE.is("so one is too many", x.count(4), 0);
    }

    private static void setWrongAnswers() {
        DUE.sentence("11. wrong ANSWERS ahead of REVEALED (1; 1 to 5)");
        AskedBack x = Due.begun("1");
        x.answer(0, 0);
        DUE.yes("1", x.set(1, 1));
        int[] outside = {0, -1, 6, 33, MIN, MAX};
        for (int value : outside) {
            DUE.no("set " + value, x.set(1, value));
            DUE.is("1 is enough still", x.reveal(0), 1);
            DUE.is("but not none", x.reveal(1), NONE);
        }
        DUE.yes("5", x.set(1, 5));
        for (int wrong = 2; wrong <= 5; wrong++) {
            DUE.is("ahead of 5", x.reveal(0), NONE);
            x.answer(0, 0);
        }
        DUE.is("5", x.reveal(0), 1);
    }

    private static void setFresh() {
        DUE.sentence("11. N (2; 1 to 8)");
        AskedBack x = Due.begun("1");
        DUE.yes("8", x.set(2, 8));
        int[] outside = {0, -1, 9, 33, MIN, MAX};
        for (int value : outside) {
            DUE.no("set " + value, x.set(2, value));
        }
        for (int c = 0; c < 8; c++) {
            DUE.is("8 are wanted still", x.count(5), 0);
            x.answer(c, 1);
        }
        DUE.is("8", x.count(5), 1);
        AskedBack one = Due.begun("1");
        DUE.yes("1", one.set(2, 1));
        one.set(2, 0);
        DUE.is("none isn't enough", one.count(5), 0);
        one.answer(0, 1);
        DUE.is("1 is", one.count(5), 1);
        AskedBack none = new AskedBack();
        DUE.yes("with no lesson begun", none.set(2, 1));
        DUE.is("none is done by that", none.count(6), 0);
    }

    private static void setNotAsTold() {
        DUE.sentence("11. false: not as told");
        AskedBack x = Due.begun("1", "0");
        int[] outside = {-1, 3, 4, 32, 33, 34, MIN, MAX};
        for (int what : outside) {
            for (int value = 0; value <= 3; value++) {
                DUE.no("set " + what + " " + value, x.set(what, value));
            }
        }
        x.answer(0, 0);
        DUE.is("one wrong answer isn't enough", x.reveal(0), NONE);
        x.answer(1, 1);
        DUE.is("one slip is too many", x.count(4), 0);
        x.answer(2, 1);
        DUE.is("two right ones aren't enough", x.count(5), 0);
        x.answer(3, 1);
        DUE.is("three are", x.count(5), 1);
    }

    private static void answerRightOrWrong() {
        DUE.sentence("12. An ANSWER: 1 right, 0 wrong");
        AskedBack x = Due.begun("a&b&c&d&e");
        DUE.is("0 for 0", x.answer(0, 0), 1);
        DUE.is("1 for 0", x.answer(0, 1), 0);
        DUE.is("1 for 31", x.answer(31, 1), 1);
        DUE.is("0 for 31", x.answer(31, 0), 0);
        DUE.is("right ones", x.count(2), 2);
        DUE.is("all", x.count(1), 4);
    }

    private static void answerWithoutALesson() {
        DUE.sentence("12. NONE, doing nothing: no LESSON is begun");
        AskedBack x = new AskedBack();
        Due.law(x, 0, "1");
        x.set(2, 1);
        DUE.is("answer", x.answer(0, 1), NONE);
        DUE.is("no answers", x.count(1), 0);
        DUE.is("nothing is done", x.count(6), 0);
        x.begin(0);
        DUE.is("nor asked", x.caseOf(0, 0), 0);
    }

    private static void answerWhenDone() {
        DUE.sentence("12. it's DONE");
        AskedBack x = Due.begun("1", "1");
        x.set(2, 1);
        x.answer(0, 1);
        DUE.is("a right one", x.answer(1, 1), NONE);
        DUE.is("a wrong one", x.answer(1, 0), NONE);
        DUE.is("one answer", x.count(1), 1);
        DUE.is("not asked", x.caseOf(1, 0), 0);
        DUE.is("no slip", x.pictureOf(0, 0), 0);
    }

    private static void answerNotAsTold() {
        DUE.sentence("12. not as told (value 0, 1)");
        AskedBack x = Due.begun("1");
        x.answer(4, 1);
        x.answer(5, 1);
        int[][] calls = {{0, -1}, {0, 2}, {0, 3}, {0, MIN}, {0, MAX}, {-1, 1}, {32, 1}, {36, 0}, {MIN, 0}, {MAX, 1}, {-1, -1}};
        for (int[] call : calls) {
            DUE.is("answer " + call[0] + " " + call[1], x.answer(call[0], call[1]), NONE);
        }
        DUE.is("two answers", x.count(1), 2);
        DUE.is("0 wasn't asked", x.caseOf(0, 0), 0);
        DUE.is("the third right one", x.answer(0, 1), 1);
        DUE.is("they didn't stand between", x.count(5), 1);
    }

    private static void answerWhenFortyAreThere() {
        DUE.sentence("12. 40 are there");
        AskedBack x = Due.begun("1", "1");
        for (int given = 0; given < 38; given++) {
            x.answer(0, 0);
        }
        DUE.is("the 39th", x.answer(1, 1), 1);
        DUE.is("the 40th", x.answer(2, 1), 1);
        DUE.is("the 41st", x.answer(3, 1), NONE);
        DUE.is("it would have been the third right one", x.count(5), 0);
        DUE.is("40", x.count(1), 40);
        DUE.is("right ones", x.count(2), 2);
        DUE.is("3 wasn't asked", x.caseOf(3, 0), 0);
        DUE.yes("begun anew", x.begin(0));
        DUE.is("there is room", x.answer(3, 1), 1);
    }
}
