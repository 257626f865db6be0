/** The boundary cases that the promises 1 to 7 name, a method for each sentence. */
public final class EdgesOfTextsTest {
    private static final int NONE = AskedBack.NONE;
    private static final int MIN = Integer.MIN_VALUE;
    private static final int MAX = Integer.MAX_VALUE;
    private static final int BLANKS = 0x20202020;
    private static final Due DUE = new Due();

    public static void main(String[] args) {
        newObject();
        feedHighestFirst();
        feedHowMany();
        feedTooMany();
        lawOfTheFirstBytes();
        lawInPlaceOfWhatWas();
        lawWithAFault();
        lawOfNoSuchLesson();
        lawOfOneBegunOrDone();
        lawOfSoManyBytes();
        pictureNumbers();
        pictureWithAFault();
        pictureRefused();
        faultOfTheLatest();
        faultNone();
        tellsNone();
        writtenBytes();
        writtenNone();
        DUE.end();
    }

    private static void newObject() {
        DUE.sentence("1. LESSONS without laws; none is begun");
        AskedBack x = new AskedBack();
        for (int lesson = 0; lesson < 6; lesson++) {
            DUE.is("tells of " + lesson, x.tells(lesson, NONE, 0), NONE);
            DUE.is("a picture of " + lesson, x.tells(lesson, 0, 0), NONE);
            DUE.is("written of " + lesson, x.written(lesson, NONE, NONE), NONE);
            DUE.no("begin " + lesson, x.begin(lesson));
        }
        DUE.is("open", x.open(), NONE);
        DUE.is("begun", x.count(0), NONE);
        DUE.is("the tape", x.count(7), 0);
        DUE.is("done", x.count(6), 0);
        DUE.is("fault", x.fault(), NONE);
        AskedBack other = new AskedBack();
        Due.law(x, 0, "a");
        x.begin(0);
        x.set(0, 3);
        DUE.is("another object has no law by that", other.tells(0, NONE, 0), NONE);
        DUE.is("nor is anything begun in it", other.count(0), NONE);
    }

    private static void feedHighestFirst() {
        DUE.sentence("2. Twenty bytes come behind those on the tape, of each number the highest first");
        AskedBack x = new AskedBack();
        x.feed(0x617C627C, 0x637C647C, 0x657C307C, 0x317C617C, 0x627C637C);
        x.feed(0x642F2F2F, BLANKS, BLANKS, BLANKS, BLANKS);
        DUE.yes("21 bytes of two feeds", x.law(0, 21));
        DUE.is("in their order", Due.written(x, 0, NONE), "a|b|c|d|e|0|1|a|b|c|d");
        int[] numbers = {0x80808080, -1, MIN, MAX, 0};
        for (int number : numbers) {
            AskedBack y = new AskedBack();
            DUE.is("any number", y.feed(number, number, number, number, number), 20);
            DUE.no("is no text", y.law(0, 20));
            DUE.is("from its first byte on", y.fault(), 0);
        }
        AskedBack high = new AskedBack();
        high.feed(0x61E1E1E1, 0, 0, 0, 0);
        DUE.no("a byte of 128 or more is no letter", high.law(0, 2));
        DUE.is("so it is the fault", high.fault(), 1);
    }

    private static void feedHowMany() {
        DUE.sentence("2. how many there are");
        AskedBack x = new AskedBack();
        for (int due = 20; due <= 80; due += 20) {
            DUE.is("feed", x.feed(0x61202020, 0, 0, 0, 0), due);
            DUE.is("count", x.count(7), due);
        }
        x.law(0, 1);
        DUE.is("once it's read", x.feed(0, 0, 0, 0, 0), 20);
    }

    private static void feedTooMany() {
        DUE.sentence("2. NONE, doing nothing: there would be more than 80");
        AskedBack x = new AskedBack();
        for (int from = 0; from < 80; from += 20) {
            x.feed(0x61202020, BLANKS, BLANKS, BLANKS, BLANKS);
        }
        DUE.is("a fifth feed", x.feed(0x62626262, 0x62626262, 0x62626262, 0x62626262, 0x62626262), NONE);
        DUE.is("a sixth", x.feed(0, 0, 0, 0, 0), NONE);
        DUE.is("80 stay", x.count(7), 80);
        DUE.yes("the first of them too", x.law(0, 20));
        DUE.is("as they were", Due.written(x, 0, NONE), "a");
    }

    private static void lawOfTheFirstBytes() {
        DUE.sentence("3. The first n bytes of the tape (which is empty then) are a LESSON's law");
        AskedBack x = new AskedBack();
        Due.feed(x, "a&b" + " ".repeat(60) + "c");
        DUE.yes("one of 80", x.law(5, 1));
        DUE.is("that one", Due.written(x, 5, NONE), "a");
        DUE.is("all 80 are gone", x.count(7), 0);
        Due.feed(x, "a&b");
        DUE.yes("all 20 of 20", x.law(0, 20));
        DUE.is("with their blanks", Due.written(x, 0, NONE), "a&b");
        Due.feed(x, " ".repeat(59) + "c");
        DUE.yes("all 60 of 60", x.law(0, 60));
        DUE.is("the sixtieth", Due.written(x, 0, NONE), "c");
    }

    private static void lawInPlaceOfWhatWas() {
        DUE.sentence("3. in place of what was: true");
        AskedBack x = new AskedBack();
        DUE.yes("the first", Due.law(x, 0, "a&b&c"));
        Due.picture(x, 0, "d");
        DUE.yes("a shorter one", Due.law(x, 0, "!a"));
        DUE.is("is written", Due.written(x, 0, NONE), "!a");
        DUE.is("behind it", x.written(0, NONE, 2), NONE);
        DUE.is("is told", x.tells(0, NONE, 0), 1);
        DUE.is("pictures stay", Due.written(x, 0, 0), "d");
        x.begin(0);
        Due.law(x, 1, "b");
        x.begin(1);
        DUE.yes("of one that was begun and left", Due.law(x, 0, "c"));
        x.begin(0);
        DUE.is("answers are looked at by the new one", x.answer(4, 1), 1);
    }

    private static void lawWithAFault() {
        DUE.sentence("3. False: a FAULT");
        AskedBack x = new AskedBack();
        DUE.no("of one without a law", Due.law(x, 0, "a|"));
        DUE.is("it has none still", x.open(), NONE);
        DUE.is("the tape is empty", x.count(7), 0);
        Due.law(x, 0, "b");
        DUE.no("of one with a law", Due.law(x, 0, "a b"));
        DUE.is("its place", x.fault(), 2);
        DUE.is("the law stays", Due.written(x, 0, NONE), "b");
        DUE.no("n 0 of an empty tape", x.law(0, 0));
        DUE.is("more must come", x.fault(), 0);
        Due.feed(x, "a");
        DUE.no("n 0 of a tape", x.law(0, 0));
        DUE.is("empties it", x.count(7), 0);
    }

    private static void lawOfNoSuchLesson() {
        DUE.sentence("3. nothing is done (the tape stays) if there is no such LESSON");
        AskedBack x = new AskedBack();
        Due.feed(x, "a&");
        int[] outside = {-1, 6, 32, MIN, MAX};
        for (int lesson : outside) {
            DUE.no("law of " + lesson, x.law(lesson, 2));
            DUE.is("the tape", x.count(7), 20);
            DUE.is("no text was read", x.fault(), NONE);
        }
        DUE.yes("the bytes are there", x.law(0, 1));
    }

    private static void lawOfOneBegunOrDone() {
        DUE.sentence("3. it's begun or DONE");
        AskedBack x = Due.begun("a");
        Due.law(x, 1, "b");
        Due.feed(x, "c&");
        DUE.no("begun", x.law(0, 2));
        x.set(2, 1);
        x.answer(0, 0);
        DUE.no("begun and done", x.law(0, 2));
        x.begin(1);
        DUE.no("done and left", x.law(0, 2));
        DUE.no("begun again", x.law(1, 2));
        DUE.is("the law stays", Due.written(x, 0, NONE), "a");
        DUE.is("the tape stays", x.count(7), 20);
        DUE.is("no text was read", x.fault(), NONE);
        DUE.yes("another", x.law(2, 1));
    }

    private static void lawOfSoManyBytes() {
        DUE.sentence("3. n isn't 0 to 60 or is more than there are");
        AskedBack x = new AskedBack();
        DUE.no("1 of none", x.law(0, 1));
        DUE.is("no text was read", x.fault(), NONE);
        Due.feed(x, "a");
        int[] outside = {-1, 21, 60, 61, MIN, MAX};
        for (int n : outside) {
            DUE.no(n + " of 20", x.law(0, n));
        }
        DUE.is("20 stay", x.count(7), 20);
        Due.feed(x, " ".repeat(20));
        DUE.no("41 of 40", x.law(0, 41));
        Due.feed(x, " ".repeat(40));
        DUE.no("61 of 80", x.law(0, 61));
        DUE.no("80 of 80", x.law(0, 80));
        DUE.is("80 stay", x.count(7), 80);
        DUE.is("still no text was read", x.fault(), NONE);
        DUE.yes("60 of 80", x.law(0, 60));
    }

    private static void pictureNumbers() {
        DUE.sentence("4. Likewise a PICTURE of a LESSON: its number");
        AskedBack x = new AskedBack();
        for (int k = 0; k < 12; k++) {
            DUE.is("picture", Due.picture(x, 0, k < 6 ? "a" : "b"), k);
            DUE.is("the tape is empty", x.count(7), 0);
            DUE.is("of another", Due.picture(x, 5, k < 6 ? "c" : "d"), k);
        }
        DUE.is("the last", Due.written(x, 0, 11), "b");
        DUE.is("the last of another", Due.written(x, 5, 11), "d");
        DUE.is("a picture is no law", x.open(), NONE);
    }

    private static void pictureWithAFault() {
        DUE.sentence("4. NONE: a FAULT");
        AskedBack x = new AskedBack();
        Due.picture(x, 0, "a");
        DUE.is("a fault", Due.picture(x, 0, "a&)"), NONE);
        DUE.is("its place", x.fault(), 2);
        DUE.is("the tape is empty", x.count(7), 0);
        DUE.is("no bytes", x.picture(0, 0), NONE);
        DUE.is("their place", x.fault(), 0);
        DUE.is("there is no second", x.tells(0, 1, 0), NONE);
        DUE.is("the next has the next number", Due.picture(x, 0, "b"), 1);
    }

    private static void pictureRefused() {
        DUE.sentence("4. -2, nothing is done: as law(), or 12 are there");
        AskedBack x = Due.begun("a", "a");
        Due.law(x, 2, "b");
        for (int k = 0; k < 12; k++) {
            Due.picture(x, 1, "b");
        }
        Due.feed(x, "c&");
        int[][] calls = {{1, 2}, {1, 0}, {0, 2}, {-1, 2}, {6, 2}, {33, 2}, {MIN, 2}, {MAX, 2}, {3, -1}, {3, 21}, {3, 61},
            {3, MIN}, {3, MAX}};
        for (int[] call : calls) {
            DUE.is("picture " + call[0] + " " + call[1], x.picture(call[0], call[1]), -2);
            DUE.is("the tape stays", x.count(7), 20);
            DUE.is("no text was read", x.fault(), NONE);
        }
        x.set(2, 1);
        x.answer(0, 0);
        DUE.is("begun and done", x.picture(0, 1), -2);
        x.begin(2);
        DUE.is("done and left", x.picture(0, 1), -2);
        Due.feed(x, " ".repeat(60));
        DUE.is("61 of 80", x.picture(3, 61), -2);
        DUE.is("60 of 80, with a fault", x.picture(3, 60), NONE);
    }

    private static void faultOfTheLatest() {
        DUE.sentence("5. The FAULT's place of the latest of law(), picture(), say(), judge() that read a text");
        AskedBack x = Due.begun("a");
        Due.law(x, 1, "!");
        DUE.is("law's", x.fault(), 1);
        Due.picture(x, 1, "!a|");
        DUE.is("picture's", x.fault(), 3);
        Due.say(x, "!a|b&");
        DUE.is("say's", x.fault(), 5);
        Due.judge(x, "!a|b&c^");
        DUE.is("judge's", x.fault(), 7);
        x.feed(0x61202020, BLANKS, BLANKS, BLANKS, BLANKS);
        x.law(0, 1);
        x.law(6, 1);
        x.picture(0, 1);
        x.say(21);
        x.judge(-1);
        x.begin(0);
        x.answer(0, 0);
        DUE.is("what reads no text leaves it", x.fault(), 7);
    }

    private static void faultNone() {
        DUE.sentence("5. NONE: it had none");
        AskedBack x = Due.begun("a");
        DUE.is("a law without one", x.fault(), NONE);
        Due.law(x, 1, "!");
        Due.picture(x, 1, "a");
        DUE.is("a picture without one", x.fault(), NONE);
        Due.law(x, 1, "!");
        Due.say(x, "a");
        DUE.is("said without one", x.fault(), NONE);
        Due.law(x, 1, "!");
        Due.judge(x, "a");
        DUE.is("judged without one", x.fault(), NONE);
        Due.judge(x, "!");
        Due.law(x, 1, "a");
        DUE.is("a law without one again", x.fault(), NONE);
    }

    private static void tellsNone() {
        DUE.sentence("6. NONE: none such");
        AskedBack x = new AskedBack();
        Due.law(x, 0, "1");
        Due.picture(x, 0, "1");
        Due.picture(x, 1, "1");
        DUE.is("a law", x.tells(0, NONE, 0), 1);
        DUE.is("a picture", x.tells(0, 0, 31), 1);
        DUE.is("a picture without a law", x.tells(1, 0, 0), 1);
        int[][] none = {{1, -1, 0}, {2, -1, 0}, {0, 1, 0}, {0, 11, 0}, {0, 12, 0}, {0, 32, 0}, {0, -2, 0}, {0, MIN, 0},
            {0, MAX, 0}, {-1, -1, 0}, {-1, 0, 0}, {6, -1, 0}, {32, -1, 0}, {MIN, 0, 0}, {MAX, 0, 0}, {0, -1, -1},
            {0, -1, 32}, {0, 0, -1}, {0, 0, 32}, {0, 0, 64}, {0, -1, MIN}, {0, -1, MAX}};
        for (int[] call : none) {
            DUE.is("tells " + call[0] + " " + call[1] + " " + call[2], x.tells(call[0], call[1], call[2]), NONE);
        }
    }

    private static void writtenBytes() {
        DUE.sentence("7. Byte i of a law or PICTURE as it's WRITTEN; how many (i NONE)");
        AskedBack x = new AskedBack();
        Due.law(x, 5, " (a | b) & 0 ");
        Due.picture(x, 5, "((1))");
        DUE.is("how many of the law", x.written(5, NONE, NONE), 7);
        DUE.is("the first", x.written(5, NONE, 0), '(');
        DUE.is("the last", x.written(5, NONE, 6), '0');
        DUE.is("how many of the picture", x.written(5, 0, NONE), 1);
        DUE.is("the first and last", x.written(5, 0, 0), '1');
    }

    private static void writtenNone() {
        DUE.sentence("7. NONE: none such");
        AskedBack x = new AskedBack();
        Due.law(x, 0, "a|b");
        Due.picture(x, 0, "c");
        Due.picture(x, 1, "d");
        int[][] none = {{0, -1, 3}, {0, -1, -2}, {0, -1, 60}, {0, -1, 120}, {0, -1, MIN}, {0, -1, MAX}, {0, 0, 1}, {0, 0, -2},
            {0, 1, -1}, {0, 1, 0}, {0, 12, -1}, {0, -2, -1}, {0, MIN, -1}, {0, MAX, -1}, {1, -1, -1}, {1, -1, 0},
            {2, -1, -1}, {-1, -1, -1}, {6, -1, -1}, {6, 0, 0}, {32, -1, 0}, {MIN, -1, -1}, {MAX, -1, -1}};
        for (int[] call : none) {
            DUE.is("written " + call[0] + " " + call[1] + " " + call[2], x.written(call[0], call[1], call[2]), NONE);
        }
    }
}
