/** Promises 16 to 22: say, judge, clash, bridge, reveal, caseOf, count. */
public final class SaidTest {
    private static final int NONE = AskedBack.NONE;
    private static final Due DUE = new Due();

    public static void main(String[] args) {
        say();
        judge();
        clashAmongSaid();
        clashWithAnswers();
        bridge();
        bridgeWithNoneLeft();
        reveal();
        caseOf();
        count();
        DUE.end();
    }

    private static void say() {
        AskedBack none = new AskedBack();
        Due.feed(none, "a");
        DUE.is("say without a lesson", none.say(1), -2);
        DUE.is("the tape stays", none.count(7), 20);
        AskedBack x = Due.begun("a");
        DUE.is("say of no bytes", x.say(0), NONE);
        DUE.is("its fault", x.fault(), 0);
        DUE.is("say with a fault", Due.say(x, "a|"), NONE);
        DUE.is("a fault empties the tape", x.count(7), 0);
        DUE.is("a fault is not said", x.count(3), 0);
        for (int number = 0; number < 10; number++) {
            DUE.is("say", Due.say(x, "a|b"), number);
            DUE.is("said", x.count(3), number + 1);
            DUE.is("say empties the tape", x.count(7), 0);
        }
        Due.feed(x, "a");
        DUE.is("an eleventh", x.say(1), -2);
        DUE.is("the tape stays", x.count(7), 20);
        DUE.is("ten don't hinder judge", x.judge(1), 0);
        x.begin(0);
        Due.feed(x, "a");
        int[] lengths = {-1, 21, 60, 61, Integer.MIN_VALUE, Integer.MAX_VALUE};
        for (int n : lengths) {
            DUE.is("say " + n, x.say(n), -2);
            DUE.is("judge " + n, x.judge(n), -2);
            DUE.is("the tape stays", x.count(7), 20);
        }
        DUE.is("say on", x.say(20), 0);
        Due.feed(x, "a" + " ".repeat(79));
        DUE.is("say 61", x.say(61), -2);
        DUE.is("judge 61", x.judge(61), -2);
        DUE.is("say 60", x.say(60), 1);
        x.set(2, 1);
        x.answer(0, 0);
        DUE.is("say when it's done", Due.say(x, "b"), 2);
    }

    private static void judge() {
        AskedBack none = new AskedBack();
        Due.feed(none, "a");
        DUE.is("judge without a lesson", none.judge(1), -2);
        DUE.is("the tape stays", none.count(7), 20);
        AskedBack x = Due.begun("a&b");
        Object[][] due = {{"a&b", 0}, {"b & a", 0}, {"!(a&b)", 32}, {"0", 8}, {"1", 24}, {"a", 8}, {"c", 16},
            {"a&b&c&d&e", 7}, {"a&b|c&d&e", 3}, {"a^", NONE}, {"", NONE}};
        for (Object[] row : due) {
            DUE.is("judge " + row[0], Due.judge(x, (String) row[0]), (Integer) row[1]);
            DUE.is("judge empties the tape", x.count(7), 0);
        }
        DUE.is("what is judged is not said", x.count(3), 0);
    }

    private static void clash(AskedBack x, String when, int c, int one, int other) {
        DUE.is(when + ": the case", x.clash(0), c);
        DUE.is(when + ": the one", x.clash(1), one);
        DUE.is(when + ": the other", x.clash(2), other);
        DUE.is(when + ": what 3", x.clash(3), NONE);
        DUE.is(when + ": what -1", x.clash(-1), NONE);
        DUE.is(when + ": far outside", x.clash(Integer.MAX_VALUE), NONE);
    }

    private static void clashAmongSaid() {
        clash(new AskedBack(), "no lesson", NONE, NONE, NONE);
        AskedBack x = Due.begun("a");
        clash(x, "nothing said", NONE, NONE, NONE);
        Due.say(x, "d");
        clash(x, "one said", NONE, NONE, NONE);
        Due.say(x, "d&1");
        clash(x, "two alike", NONE, NONE, NONE);
        Due.say(x, "d|e");
        clash(x, "the third from case 16 on", 16, 0, 2);
        Due.say(x, "c|d");
        clash(x, "the fourth from case 4 on", 4, 0, 3);
        Due.say(x, "c|d|e");
        clash(x, "the least pair", 4, 0, 3);
        Due.say(x, "!d");
        clash(x, "the sixth from case 0 on", 0, 0, 5);
        AskedBack last = Due.begun("a");
        Due.say(last, "a&b&c&d&e");
        Due.say(last, "0");
        clash(last, "the last case", 31, 0, 1);
        last.answer(0, 1);
        clash(last, "two said go ahead of an answer", 31, 0, 1);
        last.begin(0);
        clash(last, "begun anew", NONE, NONE, NONE);
    }

    private static void clashWithAnswers() {
        AskedBack x = Due.begun("a");
        x.set(2, 8);
        x.answer(9, 1);
        x.answer(4, 1);
        clash(x, "answers alone", NONE, NONE, NONE);
        Due.say(x, "a");
        clash(x, "an answer, one said", 4, 0, NONE);
        Due.say(x, "a&1");
        clash(x, "an answer, two said alike", 4, 0, NONE);
        x.answer(2, 1);
        clash(x, "the least case", 2, 0, NONE);
        x.answer(2, 0);
        clash(x, "the latest answer counts", 4, 0, NONE);
        x.answer(4, 0);
        clash(x, "no longer", NONE, NONE, NONE);
        x.answer(9, 0);
        clash(x, "told 1, answered 0", 9, 0, NONE);
    }

    private static void bridge() {
        DUE.is("bridge without a lesson", new AskedBack().bridge(0), NONE);
        AskedBack x = Due.begun("a&b", "a", "b");
        // Both tell as the law where a and b are alike: cases 0, 3, 4, 7, ..
        int[] outside = {-1, 32, Integer.MIN_VALUE, Integer.MAX_VALUE};
        for (int c : outside) {
            DUE.is("bridge " + c, x.bridge(c), NONE);
        }
        DUE.is("the case itself", x.bridge(3), 3);
        DUE.is("one bit away, the least", x.bridge(1), 0);
        DUE.is("one bit away, the least", x.bridge(30), 28);
        x.set(0, 3);
        x.set(2, 8);
        x.answer(0, 0);
        DUE.is("not one that was asked", x.bridge(1), 3);
        DUE.is("not itself if it was asked", x.bridge(0), 4);
        x.answer(3, 1);
        DUE.is("two bits away", x.bridge(1), 4);
        x.answer(1, 0);
        x.set(0, 0);
        DUE.is("only b is left", x.count(4), 1);
        DUE.is("so 5 is told as the law", x.bridge(1), 5);
        x.answer(2, 1);
        x.answer(0, 1);
        DUE.is("none: no case", Due.begun("a", "!a").bridge(0), NONE);
        AskedBack one = Due.begun("0", "!(a&b&c&d&e)");
        DUE.is("far away", one.bridge(0), 31);
        one.answer(31, 0);
        DUE.is("it was asked", one.bridge(0), NONE);
    }

    private static void bridgeWithNoneLeft() {
        AskedBack x = Due.begun("a", "!a");
        x.answer(0, 0);
        DUE.is("none is left", x.count(4), 0);
        DUE.is("all of none tell as the law", x.bridge(5), 5);
        DUE.is("but not what was asked", x.bridge(0), 1);
        DUE.is("no pictures", Due.begun("a").bridge(17), 17);
    }

    private static void reveal() {
        DUE.is("reveal without a lesson", new AskedBack().reveal(0), NONE);
        AskedBack x = Due.begun("a");
        int[] outside = {-1, 32, Integer.MIN_VALUE, Integer.MAX_VALUE};
        for (int c : outside) {
            DUE.is("reveal " + c, x.reveal(c), NONE);
        }
        for (int tries = 0; tries < 3; tries++) {
            DUE.is("not yet", x.reveal(1), NONE);
            x.answer(1, 0);
        }
        DUE.is("after three wrong ones", x.reveal(1), 1);
        x.answer(1, 1);
        DUE.is("after a right one too", x.reveal(1), 1);
        DUE.is("not of another", x.reveal(3), NONE);
        x.set(1, 4);
        DUE.is("four are wanted", x.reveal(1), NONE);
        x.answer(1, 0);
        DUE.is("right ones don't count, the fourth does", x.reveal(1), 1);
        x.set(1, 1);
        x.answer(2, 0);
        DUE.is("a right one", x.reveal(2), NONE);
        x.answer(2, 1);
        DUE.is("one wrong one", x.reveal(2), 0);
        x.set(1, 5);
        DUE.is("five are wanted", x.reveal(2), NONE);
    }

    private static void caseOf() {
        for (int what = 0; what <= 2; what++) {
            DUE.is("caseOf without a lesson", new AskedBack().caseOf(0, what), NONE);
        }
        AskedBack x = Due.begun("a");
        int[][] outside = {{-1, 0}, {32, 0}, {0, 3}, {0, -1}, {Integer.MIN_VALUE, 2}, {Integer.MAX_VALUE, 1},
            {0, Integer.MIN_VALUE}};
        for (int[] call : outside) {
            DUE.is("caseOf " + call[0] + " " + call[1], x.caseOf(call[0], call[1]), NONE);
        }
        x.answer(31, 0);
        x.answer(31, 1);
        x.answer(31, 0);
        x.answer(6, 0);
        int[][] due = {{31, 3, 2, 0}, {6, 1, 0, 0}, {0, 0, 0, NONE}};
        for (int[] row : due) {
            for (int what = 0; what <= 2; what++) {
                DUE.is("caseOf " + row[0] + " " + what, x.caseOf(row[0], what), row[what + 1]);
            }
        }
        x.answer(6, 1);
        DUE.is("the latest", x.caseOf(6, 2), 1);
        DUE.is("wrong", x.caseOf(6, 1), 1);
    }

    private static void counts(AskedBack x, String when, int... due) {
        for (int what = 0; what < due.length; what++) {
            DUE.is(when + ": count " + what, x.count(what), due[what]);
        }
        int[] outside = {-1, 8, Integer.MIN_VALUE, Integer.MAX_VALUE};
        for (int what : outside) {
            DUE.is(when + ": count " + what, x.count(what), NONE);
        }
    }

    private static void count() {
        AskedBack x = new AskedBack();
        Due.law(x, 0, "a");
        Due.law(x, 5, "b");
        Due.picture(x, 5, "b");
        Due.picture(x, 5, "c");
        counts(x, "none begun", NONE, 0, 0, 0, 0, 0, 0, 0);
        x.begin(5);
        counts(x, "begun", 5, 0, 0, 0, 2, 0, 0, 0);
        x.answer(2, 1);
        x.answer(2, 0);
        x.answer(0, 0);
        Due.say(x, "a");
        Due.feed(x, "a");
        counts(x, "answered", 5, 3, 2, 1, 0, 0, 0, 20);
        x.set(0, 1);
        x.answer(6, 1);
        x.answer(1, 0);
        counts(x, "done", 5, 5, 4, 1, 2, 1, 32, 20);
        x.begin(0);
        counts(x, "another", 0, 0, 0, 0, 0, 0, 32, 20);
    }
}
