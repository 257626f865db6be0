/** Promises 13 to 15: pictureOf, next, longest. */
public final class PictureTest {
    private static final int NONE = AskedBack.NONE;
    private static final Due DUE = new Due();

    public static void main(String[] args) {
        slipsAndLeft();
        next();
        nextWithSlips();
        path();
        longest();
        wrongInputs();
        DUE.end();
    }

    private static void slipsAndLeft() {
        AskedBack x = Due.begun("a", "a", "b", "!a");
        x.set(2, 8);
        for (int k = 0; k < 3; k++) {
            DUE.is("no slips at first", x.pictureOf(k, 0), 0);
            DUE.is("left at first", x.pictureOf(k, 1), 1);
        }
        x.answer(1, 1);
        x.answer(1, 1);
        x.answer(2, 1);
        int[] slips = {1, 2, 2};
        for (int k = 0; k < 3; k++) {
            DUE.is("slips of " + k, x.pictureOf(k, 0), slips[k]);
        }
        for (int let = 0; let <= 3; let++) {
            x.set(0, let);
            int left = 0;
            for (int k = 0; k < 3; k++) {
                DUE.is("left of " + k + ", let " + let, x.pictureOf(k, 1), slips[k] <= let ? 1 : 0);
                left += slips[k] <= let ? 1 : 0;
            }
            DUE.is("left, let " + let, x.count(4), left);
        }
    }

    private static void next() {
        DUE.is("no pictures", Due.begun("a").next(), NONE);
        DUE.is("one picture", Due.begun("a", "b").next(), NONE);
        DUE.is("pictures alike", Due.begun("a", "b", "b|b&a").next(), NONE);
        DUE.is("two that differ first at 4", Due.begun("a", "c", "0").next(), 4);
        DUE.is("halves are better than a quarter, the least of them", Due.begun("a", "a", "b", "a|b", "0").next(), 1);
        // Case 1 is told 1 by four of five, case 2 by two, case 3 by four: so 2 parts best.
        DUE.is("the best, not the least", Due.begun("a", "a", "a|b", "a|b", "a&b|a", "0").next(), 2);
        // Case 0 is told 1 by four of five, case 1 by one, case 2 by three.
        DUE.is("few who tell 1 are no better", Due.begun("a", "!a", "!a", "!a&!b", "!a", "a").next(), 2);
        AskedBack x = Due.begun("a", "a", "b");
        DUE.is("the least case of several", x.next(), 1);
        x.set(0, 3);
        x.answer(1, 1);
        DUE.is("a case that was asked is not NEXT", x.next(), 2);
        x.set(0, 0);
        DUE.is("one is left", x.next(), NONE);
        AskedBack none = Due.begun("a", "a", "b");
        none.answer(0, 1);
        DUE.is("none is left", none.next(), NONE);
        AskedBack last = Due.begun("a", "0", "a&b&c&d&e");
        DUE.is("the last case", last.next(), 31);
        last.answer(31, 0);
        DUE.is("all alike but for a case that was asked", last.next(), NONE);
        last.set(0, 1);
        DUE.is("both left, but that case was asked", last.next(), NONE);
    }

    private static void nextWithSlips() {
        AskedBack x = Due.begun("a", "a", "b", "c");
        DUE.is("none asked", x.next(), 1);
        x.answer(1, 0);
        DUE.is("b and c left", x.next(), 2);
        x.set(0, 1);
        DUE.is("all left", x.next(), 2);
        x.answer(2, 0);
        DUE.is("still all left", x.next(), 3);
        x.set(0, 0);
        DUE.is("c alone is left", x.next(), NONE);
        x.set(2, 1);
        x.answer(8, 0);
        x.set(0, 1);
        DUE.is("done", x.count(5), 1);
        DUE.is("NEXT goes on when it's done", x.next(), 3);
    }

    private static void path() {
        AskedBack x = Due.begun("a", "0", "a&b&c&!d", "a&b&d&!c", "c&d&e&!a");
        // Cases 7, 11 and 28 each part one from three: 7 is asked first, then 11, then 28.
        int[] paths = {3, 1, 2, 3};
        for (int k = 0; k < 4; k++) {
            DUE.is("path of " + k, x.pictureOf(k, 2), paths[k]);
        }
        x.set(0, 3);
        x.answer(7, 0);
        x.answer(28, 1);
        for (int k = 0; k < 4; k++) {
            DUE.is("path of " + k + " begins anew", x.pictureOf(k, 2), paths[k]);
        }
        AskedBack alike = Due.begun("a", "b", "b&1", "c");
        DUE.is("two alike are never parted", alike.pictureOf(0, 2), 1);
        DUE.is("two alike are never parted", alike.pictureOf(1, 2), 1);
        DUE.is("the third", alike.pictureOf(2, 2), 1);
        DUE.is("alone", Due.begun("a", "b").pictureOf(0, 2), 0);
    }

    private static void longest() {
        DUE.is("no lesson", new AskedBack().longest(), NONE);
        DUE.is("no pictures", Due.begun("a").longest(), NONE);
        DUE.is("one picture", Due.begun("a", "b").longest(), 0);
        DUE.is("two", Due.begun("a", "b", "c").longest(), 1);
        DUE.is("the longest of many", Due.begun("a", "a&b&c&!d", "0", "a&b&d&!c", "c&d&e&!a").longest(), 3);
        AskedBack eleven = Due.begun("a", "0", "!a&!b&!c&!d&!e", "a&!b&!c&!d&!e", "!a&b&!c&!d&!e", "a&b&!c&!d&!e",
            "!a&!b&c&!d&!e", "a&!b&c&!d&!e", "!a&b&c&!d&!e", "a&b&c&!d&!e", "!a&!b&!c&d&!e", "a&!b&!c&d&!e",
            "!a&b&!c&d&!e");
        DUE.is("twelve pictures", eleven.count(4), 12);
        DUE.is("eleven questions", eleven.longest(), 11);
    }

    private static void wrongInputs() {
        AskedBack none = new AskedBack();
        Due.law(none, 0, "a");
        Due.picture(none, 0, "a");
        for (int what = 0; what <= 2; what++) {
            DUE.is("no lesson is begun: " + what, none.pictureOf(0, what), NONE);
        }
        DUE.is("no lesson is begun: next", none.next(), NONE);
        AskedBack x = Due.begun("a", "a", "b");
        int[][] calls = {{-1, 0}, {2, 0}, {12, 1}, {0, 3}, {0, -1}, {Integer.MIN_VALUE, 2}, {Integer.MAX_VALUE, 2},
            {0, Integer.MAX_VALUE}};
        for (int[] call : calls) {
            DUE.is("pictureOf " + call[0] + " " + call[1], x.pictureOf(call[0], call[1]), NONE);
        }
    }
}
