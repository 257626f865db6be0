/** Promises 1 to 7: a new object, feed, law, picture, fault, tells, written. */
public final class FormulaTest {
    private static final int NONE = AskedBack.NONE;
    private static final Due DUE = new Due();

    public static void main(String[] args) {
        newObject();
        feed();
        law();
        lawThatMayNotChange();
        picture();
        fault();
        faultAtTheLimits();
        faultKept();
        tells();
        signsBind();
        written();
        DUE.end();
    }

    private static void newObject() {
        AskedBack x = new AskedBack();
        DUE.is("NONE", NONE, -1);
        for (int lesson = -1; lesson <= 6; lesson++) {
            DUE.is("new: tells of lesson " + lesson, x.tells(lesson, NONE, 0), NONE);
            DUE.is("new: written of lesson " + lesson, x.written(lesson, NONE, NONE), NONE);
            DUE.is("new: picture of lesson " + lesson, x.tells(lesson, 0, 0), NONE);
            DUE.no("new: begin " + lesson, x.begin(lesson));
        }
        DUE.is("new: fault", x.fault(), NONE);
        DUE.is("new: open", x.open(), NONE);
        int[] counts = {NONE, 0, 0, 0, 0, 0, 0, 0, NONE};
        for (int what = 0; what < counts.length; what++) {
            DUE.is("new: count " + what, x.count(what), counts[what]);
        }
    }

    private static void feed() {
        AskedBack x = new AskedBack();
        for (int fed = 20; fed <= 80; fed += 20) {
            DUE.is("feed", x.feed(0x61202020, 0x20202020, 0x20202020, 0x20202020, 0x20202020), fed);
            DUE.is("feed: bytes", x.count(7), fed);
        }
        DUE.is("feed: a fifth time", x.feed(0, 0, 0, 0, 0), NONE);
        DUE.is("feed: bytes after the fifth", x.count(7), 80);
        DUE.no("feed: the second comes behind the first", x.law(0, 40));
        DUE.is("feed: so the second a is the fault", x.fault(), 20);
        DUE.is("feed: on an empty tape", x.feed(0x617C6226, 0x635E647C, 0x657C307C, 0x317C6120, 0x20202021), 20);
        DUE.yes("feed: the highest byte is first", x.law(0, 15));
        DUE.is("feed: as it came", Due.written(x, 0, NONE), "a|b&c^d|e|0|1|a");
    }

    private static void law() {
        AskedBack x = new AskedBack();
        DUE.yes("law", Due.law(x, 0, "a"));
        DUE.is("law empties the tape", x.count(7), 0);
        DUE.yes("law of the last lesson", Due.law(x, 5, "b"));
        DUE.is("law of 5", Due.written(x, 5, NONE), "b");
        DUE.is("law of 4 is still none", x.written(4, NONE, NONE), NONE);
        DUE.yes("law in place of what was", Due.law(x, 0, "c"));
        DUE.is("the law now", Due.written(x, 0, NONE), "c");
        DUE.no("law with a fault", Due.law(x, 0, "d|"));
        DUE.is("a fault empties the tape", x.count(7), 0);
        DUE.is("a fault leaves the law", Due.written(x, 0, NONE), "c");
        DUE.no("law of no bytes", x.law(0, 0));
        DUE.is("no bytes are a fault", x.fault(), 0);

        Due.feed(x, "a|b");
        int[][] refused = {{-1, 3}, {6, 3}, {Integer.MIN_VALUE, 3}, {Integer.MAX_VALUE, 3}, {0, -1}, {0, 21},
            {0, Integer.MIN_VALUE}, {0, Integer.MAX_VALUE}};
        for (int[] call : refused) {
            DUE.no("law refused " + call[0] + " " + call[1], x.law(call[0], call[1]));
            DUE.is("the tape stays", x.count(7), 20);
        }
        DUE.yes("law of fewer bytes than there are", x.law(0, 1));
        DUE.is("the rest is gone", x.count(7), 0);

        Due.feed(x, "a" + "|b".repeat(30));
        DUE.no("61 bytes", x.law(0, 61));
        DUE.is("61 bytes: the tape stays", x.count(7), 80);
        Due.law(x, 0, "");
        String sixty = "!a" + "|b".repeat(29);
        DUE.yes("60 bytes", Due.law(x, 0, sixty));
        DUE.is("60 bytes as written", Due.written(x, 0, NONE), sixty);
    }

    private static void lawThatMayNotChange() {
        AskedBack x = Due.begun("a", "b");
        Due.law(x, 1, "a");
        Due.feed(x, "c");
        DUE.no("law of the lesson begun", x.law(0, 1));
        DUE.is("picture of the lesson begun", x.picture(0, 1), -2);
        DUE.is("both leave the tape", x.count(7), 20);
        DUE.yes("begin another", x.begin(1));
        DUE.yes("law of a lesson that was left", x.law(0, 1));
        DUE.is("its pictures stay", Due.written(x, 0, 0), "b");
        DUE.is("picture of a lesson that was left", Due.picture(x, 0, "d"), 1);
        x.set(2, 1);
        x.answer(0, 0);
        x.begin(0);
        Due.feed(x, "c");
        DUE.no("law of a lesson that is done", x.law(1, 1));
        DUE.is("picture of a lesson that is done", x.picture(1, 1), -2);
        DUE.is("done: the tape stays", x.count(7), 20);
    }

    private static void picture() {
        AskedBack x = new AskedBack();
        DUE.is("picture of a lesson without a law", Due.picture(x, 2, "a&b"), 0);
        DUE.is("picture empties the tape", x.count(7), 0);
        DUE.is("picture with a fault", Due.picture(x, 2, "a&&b"), NONE);
        DUE.is("its fault", x.fault(), 2);
        DUE.is("a fault empties the tape", x.count(7), 0);
        DUE.is("picture of no bytes", x.picture(2, 0), NONE);
        for (int k = 1; k < 12; k++) {
            DUE.is("picture " + k, Due.picture(x, 2, k % 2 == 0 ? "c" : "!c"), k);
        }
        DUE.is("picture 11 as written", Due.written(x, 2, 11), "!c");
        Due.feed(x, "e");
        int[][] refused = {{2, 1}, {-1, 1}, {6, 1}, {3, -1}, {3, 21}, {3, 61}, {3, Integer.MAX_VALUE}};
        for (int[] call : refused) {
            DUE.is("picture refused " + call[0] + " " + call[1], x.picture(call[0], call[1]), -2);
            DUE.is("the tape stays", x.count(7), 20);
        }
        DUE.is("the first picture of another", x.picture(3, 1), 0);
        DUE.is("no picture 12", x.tells(2, 12, 0), NONE);
    }

    private static void fault() {
        Object[][] due = {
            {"", 0}, {" ", 1}, {"\n \n", 3}, {"a", NONE}, {" a\n", NONE}, {"f", 0}, {" f", 1}, {"A", 0}, {"2", 0},
            {"\ta", 0}, {"a\r", 1}, {"a\u0000", 1}, {"a\u00ff", 1}, {"\u00e1", 0}, {"a b", 2}, {"ab", 1}, {"a  ", NONE},
            {"a|", 2}, {"a | ", 4}, {"|a", 0}, {"a||b", 2}, {"a&^b", 2}, {"a!", 1}, {"a!b", 1}, {"!", 1}, {"!|", 1},
            {"()", 1}, {"(", 1}, {"(a", 2}, {"(a ", 3}, {"(a))", 3}, {"a)", 1}, {")", 0}, {"(a b)", 3}, {"(a)(b)", 3},
            {"a(b)", 1}, {"(a|)", 3}, {"! ( a ) ", NONE}, {"1 0", 2}, {"(a|b", 4}, {"a|b)c", 3}, {"a | b f f", 6},
        };
        for (Object[] row : due) {
            AskedBack x = new AskedBack();
            String text = (String) row[0];
            int place = (Integer) row[1];
            DUE.is("law of \"" + text + "\"", Due.law(x, 0, text) ? 1 : 0, place == NONE ? 1 : 0);
            DUE.is("fault of \"" + text + "\"", x.fault(), place);
        }
    }

    private static void faultAtTheLimits() {
        AskedBack x = new AskedBack();
        DUE.yes("eight brackets", Due.law(x, 0, "((((((((a))))))))"));
        DUE.yes("eight brackets twice", Due.law(x, 0, "((((((((a))))))))&((((((((b))))))))"));
        DUE.no("nine brackets", Due.law(x, 0, "a&(((((((((b)))))))))"));
        DUE.is("the ninth bracket", x.fault(), 10);
        DUE.no("nine brackets, nothing behind", Due.law(x, 0, "((((((((("));
        DUE.is("the ninth bracket, nothing behind", x.fault(), 8);
        DUE.no("eight brackets, nothing behind", Due.law(x, 0, "(((((((("));
        DUE.is("more must come", x.fault(), 8);
        DUE.yes("eight nots", Due.law(x, 0, "!!!!!!!!a"));
        DUE.no("nine nots", Due.law(x, 0, "a|!!!!!!!!!a"));
        DUE.is("the ninth not", x.fault(), 10);
        DUE.no("nine nots with blanks", Due.law(x, 0, "! ! ! ! ! ! ! !\n!a"));
        DUE.is("the ninth not behind a blank", x.fault(), 16);
        DUE.yes("eight nots, a bracket, eight nots", Due.law(x, 0, "!!!!!!!!(!!!!!!!!a)"));
        DUE.no("60 bytes that want more", Due.law(x, 0, "a|".repeat(30)));
        DUE.is("more must come behind 60 bytes", x.fault(), 60);
        DUE.no("a fault in the last of 60 bytes", Due.law(x, 0, "a" + " ".repeat(58) + "b"));
        DUE.is("the last of 60 bytes", x.fault(), 59);
    }

    private static void faultKept() {
        AskedBack x = Due.begun("a");
        DUE.is("fault of say", Due.say(x, "a&"), NONE);
        DUE.is("say's place", x.fault(), 2);
        DUE.is("say refused", x.say(61), -2);
        DUE.is("judge refused", x.judge(1), -2);
        DUE.no("law refused", x.law(0, 0));
        DUE.is("picture refused", x.picture(0, 0), -2);
        DUE.is("what read no text leaves the fault", x.fault(), 2);
        DUE.is("judge", Due.judge(x, "a"), 0);
        DUE.is("a text without a fault", x.fault(), NONE);
        DUE.is("judge with a fault", Due.judge(x, "|"), NONE);
        DUE.is("judge's place", x.fault(), 0);
        DUE.is("say", Due.say(x, "a"), 0);
        DUE.is("say's has none", x.fault(), NONE);
    }

    private static void tells() {
        AskedBack x = new AskedBack();
        String[] letters = {"a", "b", "c", "d", "e"};
        for (int bit = 0; bit < 5; bit++) {
            Due.law(x, bit, letters[bit]);
            for (int c = 0; c < 32; c++) {
                DUE.is("letter " + letters[bit] + " of case " + c, x.tells(bit, NONE, c), c >> bit & 1);
            }
        }
        Due.picture(x, 0, "0");
        Due.picture(x, 0, "1");
        for (int c = 0; c < 32; c++) {
            DUE.is("0 of case " + c, x.tells(0, 0, c), 0);
            DUE.is("1 of case " + c, x.tells(0, 1, c), 1);
        }
        int[][] none = {{-1, -1, 0}, {6, -1, 0}, {5, -1, 0}, {0, 2, 0}, {0, -2, 0}, {0, 12, 0}, {0, -1, -1},
            {0, -1, 32}, {0, 0, 32}, {1, 0, 0}, {Integer.MAX_VALUE, -1, 0}, {0, Integer.MIN_VALUE, 0},
            {0, -1, Integer.MIN_VALUE}};
        for (int[] call : none) {
            DUE.is("tells " + call[0] + " " + call[1] + " " + call[2], x.tells(call[0], call[1], call[2]), NONE);
        }
    }

    private static void signsBind() {
        // The text and the cases 0 to 7, the highest first, of which it tells 1.
        Object[][] due = {
            {"a|b&c", 0b11101010}, {"(a|b)&c", 0b11100000}, {"a^b&c", 0b01101010}, {"a|b^c", 0b10111110},
            {"a^b|c", 0b11110110}, {"!a&b", 0b01000100}, {"!(a&b)", 0b01110111}, {"!!a", 0b10101010},
            {"a^b^c", 0b10010110}, {"!a^b", 0b10011001}, {"a&!b|!a&b", 0b01100110}, {"a^(b|c)", 0b01010110},
        };
        for (Object[] row : due) {
            AskedBack x = new AskedBack();
            Due.law(x, 0, (String) row[0]);
            for (int c = 0; c < 32; c++) {
                DUE.is(row[0] + " of case " + c, x.tells(0, NONE, c), (Integer) row[1] >> (c & 7) & 1);
            }
        }
    }

    private static void written() {
        String[][] due = {
            {" a\n", "a"}, {"((a))", "a"}, {"( 0 ) | ( 1 )", "0|1"}, {"a|(b|c)", "a|b|c"}, {"(a|b)|(c|d)", "a|b|c|d"},
            {"a&(b&(c&d))", "a&b&c&d"}, {"(a^b)^(c^(d^e))", "a^b^c^d^e"}, {"(a&b)|c", "a&b|c"}, {"a&(b|c)", "a&(b|c)"},
            {"(a|b)&c", "(a|b)&c"}, {"((a|b))&((c^d))", "(a|b)&(c^d)"}, {"a^(b|c)", "a^(b|c)"}, {"a|(b^c)", "a|b^c"},
            {"(a&b)^c", "a&b^c"}, {"!(a)", "!a"}, {"!(!a)", "!!a"}, {"!(a&b)", "!(a&b)"}, {"!((a|b))", "!(a|b)"},
            {"!(!(a^b))", "!!(a^b)"}, {"(!a)&(!b)", "!a&!b"}, {"!(!(!(1)))", "!!!1"},
            {"!!!!!!!!(!!!!!!!!a)", "!!!!!!!!!!!!!!!!a"}, {"((a|b)&c)|d", "(a|b)&c|d"}, {"((a|b)|c)&d", "(a|b|c)&d"},
            {"(a|b)&(c|d)&(e|a)", "(a|b)&(c|d)&(e|a)"}, {"((((((((a|b))))))))&c", "(a|b)&c"},
            {"(((a|b)&c)^d)&e", "((a|b)&c^d)&e"}, {"(a)", "a"}, {"(a|b)", "a|b"},
        };
        for (String[] row : due) {
            AskedBack x = new AskedBack();
            Due.law(x, 0, row[0]);
            Due.picture(x, 0, row[0]);
            DUE.is("law " + row[0], Due.written(x, 0, NONE), row[1]);
            DUE.is("picture " + row[0], Due.written(x, 0, 0), row[1]);
            DUE.is("length of " + row[0], x.written(0, NONE, NONE), row[1].length());
            DUE.is("behind " + row[0], x.written(0, NONE, row[1].length()), NONE);
            int[][] none = {{0, -1, -2}, {0, 0, Integer.MAX_VALUE}, {0, 0, Integer.MIN_VALUE}, {0, 1, 0}, {0, -2, 0},
                {1, -1, 0}, {6, -1, -1}, {-1, -1, -1}};
            for (int[] call : none) {
                DUE.is("written " + call[0] + " " + call[1] + " " + call[2], x.written(call[0], call[1], call[2]), NONE);
            }
        }
    }
}
