/** The boundary cases that the promises 13 to 22 name, a method for each sentence. */
public final class EdgesOfTalkTest {
    private static final int NONE = AskedBack.NONE;
    private static final int MIN = Integer.MIN_VALUE;
    private static final int MAX = Integer.MAX_VALUE;
    private static final Due DUE = new Due();

    public static void main(String[] args) {
        pictureOfWhat();
        pictureOfNone();
        next();
        longest();
        longestNone();
        sayNumbers();
        sayWithAFault();
        sayRefused();
        judgeCases();
        judgeWithTenSaid();
        judgeWithAFault();
        judgeRefused();
        clashPair();
        clashWithAnAnswer();
        clashNone();
        bridge();
        bridgeNone();
        reveal();
        revealNone();
        caseOf();
        caseOfNone();
        countEach();
        countWithoutALesson();
        countOthers();
        DUE.end();
    }

    /** An object with a law in lesson 0 and a picture, and nothing begun. */
    private static AskedBack unbegun() {
        AskedBack x = new AskedBack();
        Due.law(x, 0, "a");
        Due.picture(x, 0, "a");
        return x;
    }

    private static void pictureOfWhat() {
        DUE.sentence("13. Of PICTURE k: SLIPS (what 0), LEFT (1: 1, 0), PATH (2)");
        AskedBack x = Due.begun("1", "0", "0", "0", "0", "0", "0", "0", "0", "0", "0", "0", "a&b&c&d&e");
        DUE.is("path of the first", x.pictureOf(0, 2), 1);
        DUE.is("path of the last", x.pictureOf(11, 2), 1);
        DUE.is("left of the last at first", x.pictureOf(11, 1), 1);
        x.answer(31, 0);
        DUE.is("slips of the first", x.pictureOf(0, 0), 0);
        DUE.is("slips of the last", x.pictureOf(11, 0), 1);
        DUE.is("left of the first", x.pictureOf(0, 1), 1);
        DUE.is("left of the last", x.pictureOf(11, 1), 0);
        DUE.is("path of the last still", x.pictureOf(11, 2), 1);
        DUE.is("eleven are left", x.count(4), 11);
    }

    private static void pictureOfNone() {
        DUE.sentence("13. NONE: no LESSON is begun, none such");
        AskedBack none = unbegun();
        AskedBack x = Due.begun("a", "a", "b");
        Due.picture(x, 1, "a");
        Due.picture(x, 1, "a");
        Due.picture(x, 1, "a");
        int[] outside = {-1, 2, 3, 11, 12, 32, MIN, MAX};
        for (int what = 0; what <= 2; what++) {
            DUE.is("no lesson is begun, " + what, none.pictureOf(0, what), NONE);
            for (int k : outside) {
                DUE.is("pictureOf " + k + " " + what, x.pictureOf(k, what), NONE);
            }
        }
        int[] others = {-1, 3, 4, 32, MIN, MAX};
        for (int what : others) {
            DUE.is("pictureOf 0 " + what, x.pictureOf(0, what), NONE);
        }
        DUE.is("a lesson without pictures", Due.begun("a").pictureOf(0, 0), NONE);
    }

    private static void next() {
        DUE.sentence("14. NEXT");
        AskedBack none = unbegun();
        Due.picture(none, 0, "b");
        DUE.is("no lesson is begun", none.next(), NONE);
        none.begin(0);
        DUE.is("begun", none.next(), 1);
        DUE.is("asking for it isn't answering", none.next(), 1);
        DUE.is("nothing was asked", none.caseOf(1, 0), 0);
        Due.law(none, 1, "a");
        none.begin(1);
        DUE.is("a lesson without pictures", none.next(), NONE);
    }

    private static void longest() {
        DUE.sentence("15. The longest PATH of all PICTURES");
        DUE.is("one picture", Due.begun("a", "a").longest(), 0);
        DUE.is("twelve alike", Due.begun("a", "a", "a", "a", "a", "a", "a", "a", "a", "a", "a", "a", "a").longest(), 0);
        // Of these each question parts one from the rest, so the last two are parted by the eleventh.
        String[] letters = {"a", "b", "c", "d"};
        String[] pictures = new String[12];
        for (int c = 0; c < 12; c++) {
            StringBuilder only = new StringBuilder("!e");
            for (int bit = 0; bit < 4; bit++) {
                only.append((c >> bit & 1) == 1 ? "&" : "&!").append(letters[bit]);
            }
            pictures[c] = only.toString();
        }
        AskedBack x = Due.begun("a", pictures);
        DUE.is("twelve of one case each", x.longest(), 11);
        for (int k = 0; k < 12; k++) {
            DUE.is("path of " + k, x.pictureOf(k, 2), Math.min(k + 1, 11));
        }
        x.answer(0, 1);
        DUE.is("answers don't matter", x.longest(), 11);
        DUE.is("the first is the longest", Due.begun("a", "0", "a&b&c&d&e", "b&c&d&e&!a", "0").longest(), 2);
    }

    private static void longestNone() {
        DUE.sentence("15. NONE: no LESSON is begun, it has none");
        AskedBack x = unbegun();
        DUE.is("no lesson is begun", x.longest(), NONE);
        Due.law(x, 1, "a");
        x.begin(1);
        DUE.is("it has no pictures, though another has", x.longest(), NONE);
        x.begin(0);
        DUE.is("it has one", x.longest(), 0);
    }

    private static void sayNumbers() {
        DUE.sentence("16. The first n bytes of the tape (which is empty then) are SAID: the number");
        AskedBack x = Due.begun("a");
        for (int number = 0; number < 10; number++) {
            Due.feed(x, "a|b" + " ".repeat(60));
            DUE.is("say", x.say(number == 9 ? 60 : 1 + 2 * (number % 2)), number);
            DUE.is("the tape is empty", x.count(7), 0);
            DUE.is("said", x.count(3), number + 1);
        }
        DUE.is("the second is a|b, not a", x.clash(0), 2);
        DUE.is("the first of the pair", x.clash(1), 0);
        DUE.is("the second of the pair", x.clash(2), 1);
    }

    private static void sayWithAFault() {
        DUE.sentence("16. NONE: a FAULT");
        AskedBack x = Due.begun("a");
        DUE.is("a fault", Due.say(x, "a|f"), NONE);
        DUE.is("its place", x.fault(), 2);
        DUE.is("the tape is empty", x.count(7), 0);
        DUE.is("n 0 of an empty tape", x.say(0), NONE);
        DUE.is("its place", x.fault(), 0);
        Due.feed(x, "a");
        DUE.is("n 0 of a tape", x.say(0), NONE);
        DUE.is("empties it", x.count(7), 0);
        DUE.is("nothing was said", x.count(3), 0);
        DUE.is("the first", Due.say(x, "a"), 0);
    }

    private static void sayRefused() {
        DUE.sentence("16. -2, nothing is done: no LESSON is begun, n isn't 0 to 60 or is more than there are, 10 are there");
        AskedBack none = unbegun();
        DUE.is("no lesson, no bytes", none.say(0), -2);
        Due.feed(none, "a&");
        DUE.is("no lesson", none.say(2), -2);
        DUE.is("the tape stays", none.count(7), 20);
        DUE.is("no text was read", none.fault(), NONE);
        AskedBack x = Due.begun("a");
        DUE.is("1 of none", x.say(1), -2);
        Due.feed(x, "a");
        int[] outside = {-1, 21, 60, 61, 80, MIN, MAX};
        for (int n : outside) {
            DUE.is(n + " of 20", x.say(n), -2);
        }
        Due.feed(x, " ".repeat(60));
        DUE.is("61 of 80", x.say(61), -2);
        DUE.is("80 of 80", x.say(80), -2);
        DUE.is("nothing was said", x.count(3), 0);
        DUE.is("60 of 80", x.say(60), 0);
        for (int number = 1; number < 10; number++) {
            Due.say(x, "a");
        }
        Due.feed(x, "a&");
        DUE.is("an eleventh", x.say(1), -2);
        DUE.is("an eleventh with a fault", x.say(2), -2);
        DUE.is("an eleventh of no bytes", x.say(0), -2);
        DUE.is("the tape stays", x.count(7), 20);
        DUE.is("no text was read", x.fault(), NONE);
        DUE.is("ten", x.count(3), 10);
    }

    private static void judgeCases() {
        DUE.sentence("17. The first n bytes are JUDGED likewise: how many CASES");
        AskedBack x = Due.begun("a");
        Due.feed(x, "a|b" + " ".repeat(60));
        DUE.is("the first of 80", x.judge(1), 0);
        DUE.is("the tape is empty", x.count(7), 0);
        Due.feed(x, "a|b" + " ".repeat(60));
        DUE.is("60 of 80", x.judge(60), 8);
        DUE.is("all cases", Due.judge(x, "!a"), 32);
        DUE.is("without a fault", x.fault(), NONE);
        x.set(2, 1);
        x.answer(0, 0);
        DUE.is("when it's done", Due.judge(x, "0"), 16);
    }

    private static void judgeWithTenSaid() {
        DUE.sentence("17. they aren't SAID, ten that are don't hinder it");
        AskedBack x = Due.begun("a");
        Due.judge(x, "1");
        DUE.is("not said", x.count(3), 0);
        for (int number = 0; number < 10; number++) {
            Due.say(x, "a");
        }
        DUE.is("with ten said", Due.judge(x, "1"), 16);
        DUE.is("ten still", x.count(3), 10);
        DUE.is("it clashes with none", x.clash(0), NONE);
    }

    private static void judgeWithAFault() {
        DUE.sentence("17. NONE: a FAULT");
        AskedBack x = Due.begun("a");
        DUE.is("a fault", Due.judge(x, "a||"), NONE);
        DUE.is("its place", x.fault(), 2);
        DUE.is("the tape is empty", x.count(7), 0);
        Due.feed(x, "a");
        DUE.is("no bytes", x.judge(0), NONE);
        DUE.is("their place", x.fault(), 0);
        DUE.is("it empties the tape", x.count(7), 0);
    }

    private static void judgeRefused() {
        DUE.sentence("17. -2, nothing is done: no LESSON is begun, n isn't 0 to 60 or is more than there are");
        AskedBack none = unbegun();
        DUE.is("no lesson, no bytes", none.judge(0), -2);
        Due.feed(none, "a&");
        DUE.is("no lesson", none.judge(2), -2);
        DUE.is("the tape stays", none.count(7), 20);
        DUE.is("no text was read", none.fault(), NONE);
        AskedBack x = Due.begun("a");
        DUE.is("1 of none", x.judge(1), -2);
        Due.feed(x, "a&");
        int[] outside = {-1, 21, 60, 61, 80, MIN, MAX};
        for (int n : outside) {
            DUE.is(n + " of 20", x.judge(n), -2);
        }
        Due.feed(x, " ".repeat(60));
        DUE.is("61 of 80", x.judge(61), -2);
        DUE.is("the tape stays full", x.count(7), 80);
        DUE.is("still no text was read", x.fault(), NONE);
        DUE.is("60 of 80", x.judge(60), NONE);
    }

    private static void due(AskedBack x, String when, int c, int one, int other) {
        DUE.is(when + ": the case", x.clash(0), c);
        DUE.is(when + ": the one", x.clash(1), one);
        DUE.is(when + ": the other", x.clash(2), other);
    }

    private static void clashPair() {
        DUE.sentence("18. A CLASH: the CASE (what 0); the two SAID (1, 2: the least pair)");
        AskedBack x = Due.begun("a");
        Due.say(x, "d&e");
        Due.say(x, "d");
        Due.say(x, "d&e");
        due(x, "the second alone is unlike, and the third as the first", 8, 0, 1);
        Due.say(x, "d&e|a&b&c");
        due(x, "a lesser case", 7, 0, 3);
        Due.say(x, "d|e");
        due(x, "a greater one changes nothing", 7, 0, 3);
        Due.say(x, "1");
        due(x, "case 0", 0, 0, 5);
        AskedBack first = Due.begun("a");
        Due.say(first, "1");
        Due.say(first, "0");
        Due.say(first, "0");
        due(first, "the first is unlike all", 0, 0, 1);
        AskedBack last = Due.begun("a");
        for (int number = 0; number < 9; number++) {
            Due.say(last, "0");
        }
        Due.say(last, "a&b&c&d&e");
        due(last, "the tenth, at case 31", 31, 0, 9);
    }

    private static void clashWithAnAnswer() {
        DUE.sentence("18. 2 is NONE for an ANSWER's");
        AskedBack x = Due.begun("1");
        Due.say(x, "0");
        x.answer(31, 1);
        due(x, "case 31", 31, 0, NONE);
        x.answer(0, 1);
        due(x, "case 0", 0, 0, NONE);
        Due.say(x, "a&!a");
        due(x, "two alike", 0, 0, NONE);
        x.answer(0, 0);
        due(x, "the latest answer", 31, 0, NONE);
        x.answer(31, 0);
        due(x, "none any more", NONE, NONE, NONE);
        Due.say(x, "1");
        due(x, "two said", 0, 0, 2);
    }

    private static void clashNone() {
        DUE.sentence("18. NONE: there is none");
        due(new AskedBack(), "no lesson is begun", NONE, NONE, NONE);
        AskedBack x = Due.begun("1");
        due(x, "nothing is said", NONE, NONE, NONE);
        x.answer(0, 0);
        x.answer(1, 1);
        due(x, "nothing is said, but answered", NONE, NONE, NONE);
        Due.say(x, "a");
        due(x, "one said, as answered", NONE, NONE, NONE);
        Due.say(x, "!!a");
        due(x, "two said, as answered", NONE, NONE, NONE);
        Due.say(x, "1");
        int[] others = {-1, 3, 4, 32, MIN, MAX};
        for (int what : others) {
            DUE.is("clash " + what, x.clash(what), NONE);
        }
        due(x, "there is one", 0, 0, 2);
        x.begin(0);
        due(x, "begun anew", NONE, NONE, NONE);
        x.answer(1, 1);
        due(x, "begun anew and answered", NONE, NONE, NONE);
    }

    private static void bridge() {
        DUE.sentence("19. A BRIDGE from a CASE");
        // All but the cases 0 and 31 are told otherwise than the law.
        AskedBack x = Due.begun("0", "!(!a&!b&!c&!d&!e|a&b&c&d&e)");
        DUE.is("two bits to 0, three to 31", x.bridge(3), 0);
        DUE.is("three bits to 0, two to 31", x.bridge(7), 31);
        DUE.is("the case 0 itself", x.bridge(0), 0);
        DUE.is("the case 31 itself", x.bridge(31), 31);
        x.answer(0, 0);
        DUE.is("0 was asked", x.bridge(0), 31);
        DUE.is("it stays so when it's asked for", x.bridge(3), 31);
        x.answer(31, 1);
        DUE.is("none is left, so any case not asked will do", x.bridge(31), 15);
    }

    private static void bridgeNone() {
        DUE.sentence("19. NONE: none, no LESSON is begun");
        AskedBack none = unbegun();
        DUE.is("no lesson is begun", none.bridge(0), NONE);
        AskedBack x = Due.begun("0", "1");
        for (int c = 0; c < 32; c++) {
            DUE.is("all are told otherwise", x.bridge(c), NONE);
        }
        int[] outside = {-1, 32, 33, 63, MIN, MAX};
        AskedBack any = Due.begun("0");
        for (int c : outside) {
            DUE.is("bridge " + c, any.bridge(c), NONE);
        }
        AskedBack all = Due.begun("0", "0");
        all.set(0, 3);
        for (int c = 0; c < 31; c++) {
            all.answer(c, 1);
        }
        DUE.is("one isn't asked", all.bridge(0), 31);
        all.answer(31, 1);
        DUE.is("all are asked", all.bridge(0), NONE);
    }

    private static void reveal() {
        DUE.sentence("20. REVEALED");
        AskedBack x = Due.begun("e");
        for (int given = 0; given < 3; given++) {
            x.answer(0, 1);
            x.answer(31, 0);
            x.answer(1, 0);
        }
        DUE.is("0 that is revealed", x.reveal(0), 0);
        DUE.is("1 that is revealed", x.reveal(31), 1);
        DUE.is("three right ones", x.reveal(1), NONE);
        x.answer(0, 0);
        DUE.is("a right one takes nothing back", x.reveal(0), 0);
    }

    private static void revealNone() {
        DUE.sentence("20. NONE: not yet, no LESSON is begun, no such CASE");
        AskedBack none = unbegun();
        none.set(1, 1);
        DUE.is("no lesson is begun", none.reveal(0), NONE);
        AskedBack x = Due.begun("1");
        x.set(1, 1);
        DUE.is("not asked", x.reveal(0), NONE);
        x.answer(0, 0);
        DUE.is("asked", x.reveal(0), 1);
        int[] outside = {-1, -32, 32, 64, MIN, MAX};
        for (int c : outside) {
            DUE.is("reveal " + c, x.reveal(c), NONE);
        }
        x.set(1, 2);
        DUE.is("not yet", x.reveal(0), NONE);
        x.set(1, 1);
        x.begin(0);
        DUE.is("begun anew", x.reveal(0), NONE);
    }

    private static void caseOf() {
        DUE.sentence("21. how often it was asked (0), wrong ANSWERS (1), the latest (2; NONE)");
        AskedBack x = Due.begun("1");
        int[] cases = {0, 31};
        for (int c : cases) {
            DUE.is("never asked", x.caseOf(c, 0), 0);
            DUE.is("never wrong", x.caseOf(c, 1), 0);
            DUE.is("no latest", x.caseOf(c, 2), NONE);
            x.answer(c, 0);
            DUE.is("the latest was 0", x.caseOf(c, 2), 0);
            x.answer(c, 1);
            DUE.is("the latest was 1", x.caseOf(c, 2), 1);
            DUE.is("twice asked", x.caseOf(c, 0), 2);
            DUE.is("once wrong", x.caseOf(c, 1), 1);
        }
        DUE.is("another", x.caseOf(1, 0), 0);
    }

    private static void caseOfNone() {
        DUE.sentence("21. NONE: none such");
        AskedBack none = unbegun();
        AskedBack x = Due.begun("1");
        x.answer(0, 0);
        int[] outside = {-1, 32, 64, MIN, MAX};
        for (int what = 0; what <= 2; what++) {
            DUE.is("no lesson is begun", none.caseOf(0, what), NONE);
            for (int c : outside) {
                DUE.is("caseOf " + c + " " + what, x.caseOf(c, what), NONE);
            }
        }
        int[] others = {-1, 3, 4, 32, MIN, MAX};
        for (int what : others) {
            DUE.is("caseOf 0 " + what, x.caseOf(0, what), NONE);
        }
    }

    private static void counts(AskedBack x, String when, int... due) {
        for (int what = 0; what < due.length; what++) {
            DUE.is(when + ": count " + what, x.count(what), due[what]);
        }
    }

    private static void countEach() {
        DUE.sentence("22. 0 the LESSON that is begun, 1 ANSWERS, 2 right ones, 3 SAID, 4 LEFT, 5 DONE, 6 as bits, 7 the tape");
        AskedBack x = Due.begun("1", "0");
        counts(x, "begun", 0, 0, 0, 0, 1, 0, 0, 0);
        for (int given = 0; given < 37; given++) {
            x.answer(0, 0);
        }
        for (int number = 0; number < 10; number++) {
            Due.say(x, "a");
        }
        Due.feed(x, " ".repeat(80));
        counts(x, "37 answers", 0, 37, 0, 10, 1, 0, 0, 80);
        for (int c = 1; c <= 3; c++) {
            x.answer(c, 1);
        }
        counts(x, "full and done", 0, 40, 3, 10, 0, 1, 1, 80);
        x.set(0, 3);
        counts(x, "three slips let", 0, 40, 3, 10, 1, 1, 1, 80);
        x.judge(0);
        x.set(2, 1);
        int bits = 1;
        for (int lesson = 1; lesson < 6; lesson++) {
            Due.law(x, lesson, "a");
            x.begin(lesson);
            counts(x, "the next", lesson, 0, 0, 0, 0, 0, bits, 0);
            x.answer(0, 0);
            bits += 1 << lesson;
            counts(x, "the next done", lesson, 1, 1, 0, 0, 1, bits, 0);
        }
        DUE.is("all six", x.count(6), 63);
    }

    private static void countWithoutALesson() {
        DUE.sentence("22. 0 .. (NONE); 1 to 5 are 0 without one");
        counts(new AskedBack(), "a new object", NONE, 0, 0, 0, 0, 0, 0, 0);
        AskedBack x = unbegun();
        Due.feed(x, "a" + " ".repeat(79));
        x.answer(0, 0);
        x.say(1);
        counts(x, "a law, a picture, a full tape", NONE, 0, 0, 0, 0, 0, 0, 80);
    }

    private static void countOthers() {
        DUE.sentence("22. NONE for others");
        AskedBack none = new AskedBack();
        AskedBack x = Due.begun("a");
        int[] others = {-1, -2, 8, 9, 32, 39, MIN, MAX};
        for (int what : others) {
            DUE.is("count " + what + " without a lesson", none.count(what), NONE);
            DUE.is("count " + what, x.count(what), NONE);
        }
    }
}
