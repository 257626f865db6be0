/** The boundary cases that the document's 'Terms' name, a method for each sentence. */
public final class EdgesOfTermsTest {
    private static final int NONE = AskedBack.NONE;
    private static final int MIN = Integer.MIN_VALUE;
    private static final int MAX = Integer.MAX_VALUE;
    private static final Due DUE = new Due();

    public static void main(String[] args) {
        cases();
        letters();
        grammar();
        blanks();
        sixtyBytes();
        eightBrackets();
        eightNots();
        faultOfAByte();
        faultOfTheLength();
        bracketsThatAreNeeded();
        rowsOfLikeSigns();
        nots();
        longestWritten();
        lessons();
        twelvePictures();
        noRing();
        fortyAnswers();
        slips();
        left();
        next();
        nextIsNone();
        path();
        tenSaid();
        clash();
        judged();
        bridge();
        revealed();
        done();
        doneStays();
        DUE.end();
    }

    private static void cases() {
        DUE.sentence("CASES 0 to 31");
        AskedBack x = Due.begun("1", "1");
        x.set(1, 1);
        // Those from 32 on are what a shift by a case would take for one of 0 to 31.
        int[] outside = {-1, -32, 32, 33, 63, 64, MIN, MAX};
        for (int c : outside) {
            DUE.is("answer " + c, x.answer(c, 0), NONE);
        }
        for (int c = 0; c < 32; c += 31) {
            DUE.is("answer " + c, x.answer(c, 0), 0);
        }
        for (int c : outside) {
            DUE.is("tells " + c, x.tells(0, NONE, c), NONE);
            DUE.is("tells of a picture " + c, x.tells(0, 0, c), NONE);
            DUE.is("bridge " + c, x.bridge(c), NONE);
            DUE.is("reveal " + c, x.reveal(c), NONE);
            for (int what = 0; what <= 2; what++) {
                DUE.is("caseOf " + c + " " + what, x.caseOf(c, what), NONE);
            }
        }
        for (int c = 0; c < 32; c += 31) {
            DUE.is("tells " + c, x.tells(0, NONE, c), 1);
            DUE.is("reveal " + c, x.reveal(c), 1);
            DUE.is("asked " + c, x.caseOf(c, 0), 1);
        }
        DUE.is("two answers", x.count(1), 2);
    }

    private static void letters() {
        DUE.sentence("LETTER a holds of those with bit 0, b bit 1, c bit 2, d bit 3, e bit 4");
        String[] letters = {"a", "b", "c", "d", "e"};
        for (int bit = 0; bit < 5; bit++) {
            AskedBack x = new AskedBack();
            Due.law(x, 0, letters[bit]);
            DUE.is(letters[bit] + " of case 0", x.tells(0, NONE, 0), 0);
            DUE.is(letters[bit] + " of case 31", x.tells(0, NONE, 31), 1);
            for (int one = 0; one < 5; one++) {
                DUE.is(letters[bit] + " of bit " + one, x.tells(0, NONE, 1 << one), one == bit ? 1 : 0);
                DUE.is(letters[bit] + " of all but bit " + one, x.tells(0, NONE, 31 - (1 << one)), one == bit ? 0 : 1);
            }
        }
        DUE.is("the byte ahead of a", Due.faultOf("`"), 0);
        DUE.is("the byte behind e", Due.faultOf("f"), 0);
    }

    /** All 256 bytes in each of the places where a text may go on. */
    private static void grammar() {
        DUE.sentence("A FORMULA is a text: OR = ..; NOT = \"!\" NOT | LETTER | \"0\" | \"1\" | \"(\" OR \")\"");
        for (char sign = 0; sign < 256; sign++) {
            boolean blank = sign == ' ' || sign == '\n';
            boolean atom = sign >= 'a' && sign <= 'e' || sign == '0' || sign == '1';
            boolean opens = sign == '(' || sign == '!';
            boolean joins = sign == '|' || sign == '^' || sign == '&';
            String name = "byte " + (int) sign;
            DUE.is(name + " alone", Due.faultOf("" + sign), atom ? NONE : blank || opens ? 1 : 0);
            DUE.is(name + " behind a sign", Due.faultOf("b&" + sign), atom ? NONE : blank || opens ? 3 : 2);
            DUE.is(name + " behind !", Due.faultOf("!" + sign), atom ? NONE : blank || opens ? 2 : 1);
            DUE.is(name + " behind a bracket", Due.faultOf("(" + sign), atom || blank || opens ? 2 : 1);
            DUE.is(name + " behind a letter", Due.faultOf("a" + sign), blank ? NONE : joins ? 2 : 1);
            DUE.is(name + " behind a digit", Due.faultOf("0" + sign), blank ? NONE : joins ? 2 : 1);
            DUE.is(name + " between letters", Due.faultOf("a" + sign + "b"), joins ? NONE : blank ? 2 : 1);
            DUE.is(name + " in a bracket", Due.faultOf("(a" + sign), sign == ')' ? NONE : joins || blank ? 3 : 2);
            DUE.is(name + " behind a closed one", Due.faultOf("(a)" + sign), blank ? NONE : joins ? 4 : 3);
        }
    }

    private static void blanks() {
        DUE.sentence("Blanks (bytes 32 and 10) may stand between");
        DUE.is("ahead, between and behind", Due.faultOf("\n ( a\n|\n ! 0 ) \n& 1 \n"), NONE);
        DUE.is("they are not written", Due.writtenAnew("\n ( a\n|\n ! 0 ) \n& 1 \n"), "(a|!0)&1");
        for (char sign : new char[] {0, 9, 11, 12, 13, 31, 33 + 128, 160, 255}) {
            DUE.is("byte " + (int) sign + " is none", Due.faultOf("a " + sign + "|b"), 2);
        }
        DUE.is("a letter and 59 of them", Due.faultOf("a" + " \n".repeat(29) + " "), NONE);
        DUE.is("59 of them and a letter", Due.faultOf(" \n".repeat(29) + " a"), NONE);
        DUE.is("60 of them", Due.faultOf("\n ".repeat(30)), 60);
    }

    private static void sixtyBytes() {
        DUE.sentence("At most 60 bytes");
        AskedBack x = Due.begun("0");
        String sixty = "!!" + "b|".repeat(28) + "!b";
        DUE.is("the text's length", sixty.length(), 60);
        DUE.is("judge 60", Due.judge(x, sixty), 32);
        DUE.is("say 60", Due.say(x, sixty), 0);
        DUE.is("picture 60", Due.picture(x, 1, sixty), 0);
        DUE.yes("law 60", Due.law(x, 1, sixty));
        Due.feed(x, "a" + " ".repeat(60));
        DUE.is("judge 61", x.judge(61), -2);
        DUE.is("say 61", x.say(61), -2);
        DUE.is("picture 61", x.picture(1, 61), -2);
        DUE.no("law 61", x.law(1, 61));
        DUE.is("the tape stays", x.count(7), 80);
    }

    private static void eightBrackets() {
        DUE.sentence("brackets at most 8 deep; of the ninth bracket: that one");
        DUE.is("8 deep", Due.faultOf("((((((((a))))))))"), NONE);
        DUE.is("8 deep with blanks", Due.faultOf(" (( (( (( ((a)) )) )) )) "), NONE);
        DUE.is("9 deep", Due.faultOf("(((((((((a)))))))))"), 8);
        DUE.is("9 deep with blanks", Due.faultOf("(( (( (( ((\n(a)) )) )) )))"), 12);
        DUE.is("8, then a blank: more must come", Due.faultOf("(((((((( "), 9);
        DUE.is("9, then a blank: the ninth", Due.faultOf("((((((((( "), 8);
        DUE.is("one closed, one opened", Due.faultOf("((((((((a)|(b))))))))"), NONE);
        DUE.is("one closed, two opened", Due.faultOf("((((((((a)|((b)))))))))"), 12);
        DUE.is("nine beside one another", Due.faultOf("(a)|(a)|(a)|(a)|(a)|(a)|(a)|(a)|(a)"), NONE);
        DUE.is("8 deep twice", Due.faultOf("((((((((a))))))))^((((((((b))))))))"), NONE);
        DUE.is("8 deep with ! between", Due.faultOf("!(!(!(!(!(!(!(!(a))))))))"), NONE);
        DUE.is("9 deep with ! between", Due.faultOf("!(!(!(!(!(!(!(!(!(a)))))))))"), 17);
    }

    private static void eightNots() {
        DUE.sentence("\"!\" at most 8 one behind the other; of the ninth \"!\": that one");
        DUE.is("8", Due.faultOf("!!!!!!!!a"), NONE);
        DUE.is("8 with blanks", Due.faultOf("! ! !\n! ! ! ! ! a"), NONE);
        DUE.is("9", Due.faultOf("!!!!!!!!!a"), 8);
        DUE.is("9 with blanks", Due.faultOf("! ! !\n! ! ! ! !  !a"), 17);
        DUE.is("8, then a blank: more must come", Due.faultOf("!!!!!!!! "), 9);
        DUE.is("9, then a blank: the ninth", Due.faultOf("!!!!!!!!! "), 8);
        DUE.is("8 and a bracket", Due.faultOf("!!!!!!!!(a)"), NONE);
        DUE.is("8 and a bracket that stays open", Due.faultOf("!!!!!!!!("), 9);
        DUE.is("8 on both sides of a sign", Due.faultOf("!!!!!!!!a&!!!!!!!!b"), NONE);
        DUE.is("9 behind a sign", Due.faultOf("!!!!!!!!a&!!!!!!!!!b"), 18);
        DUE.is("8 on both sides of a bracket", Due.faultOf("!!!!!!!!(!!!!!!!!a)"), NONE);
        DUE.is("9 in a bracket", Due.faultOf("!!!!!!!!(!!!!!!!!!a)"), 17);
        AskedBack x = new AskedBack();
        Due.law(x, 0, "!!!!!!!!a");
        Due.law(x, 1, "!!!!!!!a");
        DUE.is("8 tell as none", x.tells(0, NONE, 1), 1);
        DUE.is("7 tell as one", x.tells(1, NONE, 1), 0);
    }

    private static void faultOfAByte() {
        DUE.sentence("FAULT: the place of the first byte that isn't a blank and with which no such text goes on");
        DUE.is("the first byte", Due.faultOf(")a"), 0);
        DUE.is("the first of two", Due.faultOf("a f f"), 2);
        DUE.is("behind blanks", Due.faultOf("a \n \n)"), 5);
        DUE.is("a bracket closed once too often", Due.faultOf("((a)))"), 5);
        DUE.is("nothing in brackets", Due.faultOf("a|( )"), 4);
        DUE.is("two signs", Due.faultOf("a^ |b"), 3);
        DUE.is("the last of 60", Due.faultOf(" ".repeat(59) + ")"), 59);
        DUE.is("ahead of what else is wrong", Due.faultOf("a))))((((((((((((!!!!!!!!!!!!"), 1);
        DUE.is("ahead of what is wanted at the end", Due.faultOf("(a b"), 3);
    }

    private static void faultOfTheLength() {
        DUE.sentence("the text's length, if more must come");
        DUE.is("no byte", Due.faultOf(""), 0);
        DUE.is("a blank", Due.faultOf(" "), 1);
        DUE.is("blanks behind count too", Due.faultOf("a|  \n"), 5);
        DUE.is("a bracket is open", Due.faultOf("(a&(b)"), 6);
        DUE.is("an open bracket and blanks", Due.faultOf("(a&(b)  "), 8);
        DUE.is("60 bytes that end with a sign", Due.faultOf("a&".repeat(30)), 60);
        AskedBack x = new AskedBack();
        Due.feed(x, "a|b");
        DUE.no("what is on the tape behind the first n is no part of it", x.law(0, 2));
        DUE.is("so more must come", x.fault(), 2);
        Due.feed(x, "a|b)");
        DUE.yes("nor is what would be a fault", x.law(0, 3));
    }

    private static void bracketsThatAreNeeded() {
        DUE.sentence("brackets where they are needed alone");
        String signs = "|^&";
        for (int inner = 0; inner < 3; inner++) {
            for (int outer = 0; outer < 3; outer++) {
                String in = "" + signs.charAt(inner);
                String out = "" + signs.charAt(outer);
                String ahead = "(a" + in + "b)" + out + "c";
                String behind = "a" + out + "(b" + in + "c)";
                boolean needed = inner < outer;
                DUE.is(ahead, Due.writtenAnew(ahead), needed ? ahead : "a" + in + "b" + out + "c");
                DUE.is(behind, Due.writtenAnew(behind), needed ? behind : "a" + out + "b" + in + "c");
                String more = "((" + ahead + "))" + out + "((d" + in + "e))";
                String due = (needed ? ahead : "a" + in + "b" + out + "c") + out + (needed ? "(d" + in + "e)" : "d" + in + "e");
                DUE.is(more, Due.writtenAnew(more), due);
            }
        }
        DUE.is("around all", Due.writtenAnew("((((((((a|b))))))))"), "a|b");
        DUE.is("around a letter", Due.writtenAnew("((a))&(b)"), "a&b");
        DUE.is("around digits", Due.writtenAnew("(0)^((1))"), "0^1");
        DUE.is("only the outer of three", Due.writtenAnew("((a&b)^c)&d"), "(a&b^c)&d");
    }

    private static void rowsOfLikeSigns() {
        DUE.sentence("a row of like signs needs none, however they were put together");
        for (String sign : new String[] {"|", "^", "&"}) {
            String due = "a@b@c@d@e".replace("@", sign);
            String[] texts = {"a@(b@(c@(d@e)))", "(((a@b)@c)@d)@e", "(a@b)@(c@d)@e", "a@((b@c)@d)@e", "((a@b)@(c@(d@e)))"};
            for (String text : texts) {
                DUE.is(text, Due.writtenAnew(text.replace("@", sign)), due);
            }
        }
        DUE.is("a row in a row", Due.writtenAnew("(a|(b|c))&(d&(e&a))"), "(a|b|c)&d&e&a");
    }

    private static void nots() {
        DUE.sentence("\"!\" is ahead of a LETTER, digit, \"!\" or bracket");
        String[][] due = {{"!(a)", "!a"}, {"!(1)", "!1"}, {"!(!(a))", "!!a"}, {"!((!a))", "!!a"}, {"!(a|b)", "!(a|b)"},
            {"!(a^b)", "!(a^b)"}, {"!((a&b))", "!(a&b)"}, {"!(!(a&b))", "!!(a&b)"}, {"(!a)|b", "!a|b"}, {"(!a)&!(b)", "!a&!b"},
            {"!(a)&b", "!a&b"}, {"(!(a|b))^c", "!(a|b)^c"}};
        for (String[] row : due) {
            DUE.is(row[0], Due.writtenAnew(row[0]), row[1]);
        }
        DUE.is("more than eight, out of brackets", Due.writtenAnew("!!!!!!!!(!!!!!!!!(!!!!!!!!(a)))"), "!".repeat(24) + "a");
    }

    private static void longestWritten() {
        DUE.sentence("As it's WRITTEN: at its longest");
        String deep = "!(a|!(b|!(c|!(d|!(e|!(a|!(b|!(c|d))))))))";
        String text = deep + "&(a|b)&(c^d)&!!!!!e";
        DUE.is("the text's length", text.length(), 60);
        DUE.is("with brackets that are all needed", Due.writtenAnew(text), text);
        String row = "a" + "^b".repeat(29);
        AskedBack x = new AskedBack();
        Due.law(x, 0, row + " ");
        DUE.is("59 bytes and a blank", x.written(0, NONE, NONE), 59);
        DUE.is("the last byte", x.written(0, NONE, 58), 'b');
        DUE.is("behind it", x.written(0, NONE, 59), NONE);
        DUE.is("the shortest", Due.writtenAnew("(( ((((((a)) ))))))"), "a");
    }

    private static void lessons() {
        DUE.sentence("LESSONS 0 to 5");
        int[] outside = {-1, 6, 7, 31, 32, 37, 64, MIN, MAX};
        AskedBack x = new AskedBack();
        for (int lesson = 0; lesson < 6; lesson++) {
            DUE.yes("law of " + lesson, Due.law(x, lesson, "a"));
            DUE.is("picture of " + lesson, Due.picture(x, lesson, "b"), 0);
            DUE.yes("begin " + lesson, x.begin(lesson));
        }
        Due.feed(x, "a");
        for (int lesson : outside) {
            DUE.no("law of " + lesson, x.law(lesson, 1));
            DUE.is("picture of " + lesson, x.picture(lesson, 1), -2);
            DUE.is("tells of " + lesson, x.tells(lesson, NONE, 0), NONE);
            DUE.is("tells of a picture of " + lesson, x.tells(lesson, 0, 0), NONE);
            DUE.is("written of " + lesson, x.written(lesson, NONE, NONE), NONE);
            DUE.no("needs " + lesson, x.needs(0, lesson));
            DUE.no("needed by " + lesson, x.needs(lesson, 0));
            DUE.no("begin " + lesson, x.begin(lesson));
        }
        DUE.is("the last stays begun", x.count(0), 5);
        DUE.is("the tape stays", x.count(7), 20);
        DUE.is("the least is open still", x.open(), 0);
    }

    private static void twelvePictures() {
        DUE.sentence("up to 12 PICTURES (FORMULAS, numbered as they come)");
        AskedBack x = new AskedBack();
        for (int k = 0; k < 12; k++) {
            DUE.is("there is none yet", x.tells(0, k, 0), NONE);
            DUE.is("picture " + k, Due.picture(x, 0, k % 2 == 0 ? "1" : "0"), k);
        }
        Due.feed(x, "1");
        DUE.is("a thirteenth", x.picture(0, 1), -2);
        for (int k = 0; k < 12; k++) {
            DUE.is("picture " + k + " tells", x.tells(0, k, 31), 1 - k % 2);
        }
        DUE.is("no thirteenth", x.tells(0, 12, 0), NONE);
        DUE.is("another lesson has twelve of its own", x.picture(1, 1), 0);
    }

    private static void noRing() {
        DUE.sentence("A LESSON may need others; no ring");
        AskedBack x = new AskedBack();
        for (int a = 0; a < 6; a++) {
            for (int b = a + 1; b < 6; b++) {
                DUE.yes(a + " needs " + b, x.needs(a, b));
            }
        }
        for (int a = 0; a < 6; a++) {
            for (int b = 0; b <= a; b++) {
                DUE.no(a + " would need " + b, x.needs(a, b));
            }
        }
    }

    private static void fortyAnswers() {
        DUE.sentence("ANSWERS are given for CASES, at most 40 (a CASE may be asked again)");
        AskedBack x = Due.begun("1", "1");
        for (int given = 0; given < 40; given++) {
            DUE.is("answer " + given, x.answer(7, 0), 0);
        }
        DUE.is("one more", x.answer(7, 0), NONE);
        DUE.is("one more, right", x.answer(8, 1), NONE);
        DUE.is("forty", x.count(1), 40);
        DUE.is("of one case", x.caseOf(7, 0), 40);
        DUE.is("all wrong", x.caseOf(7, 1), 40);
        DUE.is("each a slip", x.pictureOf(0, 0), 40);
        x.begin(0);
        DUE.is("begun anew", x.answer(7, 0), 0);
    }

    private static void slips() {
        DUE.sentence("SLIPS of a PICTURE: how many ANSWERS it TELLS otherwise");
        AskedBack x = Due.begun("1", "0", "1", "a");
        DUE.is("no answers", x.pictureOf(0, 0), 0);
        x.answer(0, 1);
        x.answer(0, 1);
        x.answer(0, 0);
        x.answer(31, 0);
        DUE.is("both answers of a case asked again", x.pictureOf(0, 0), 2);
        DUE.is("of the other", x.pictureOf(1, 0), 2);
        DUE.is("of the third", x.pictureOf(2, 0), 3);
    }

    private static void left() {
        DUE.sentence("LEFT are those with at most so many SLIPS as are let (0 to 3; 0 at first)");
        AskedBack first = Due.begun("1", "0");
        DUE.is("0 at first, none slipped", first.count(4), 1);
        first.answer(0, 1);
        DUE.is("0 at first, one slipped", first.count(4), 0);
        for (int let = 0; let <= 3; let++) {
            AskedBack x = Due.begun("1", "0");
            x.set(2, 8);
            x.set(0, let);
            for (int slips = 0; slips <= 4; slips++) {
                int due = slips <= let ? 1 : 0;
                DUE.is(slips + " slips, let " + let, x.pictureOf(0, 1), due);
                DUE.is(slips + " slips, let " + let + ": count", x.count(4), due);
                x.answer(slips, 1);
            }
        }
    }

    private static void next() {
        DUE.sentence("NEXT: the greater of how many TELL 0 and TELL 1 is least, of several the least CASE");
        DUE.is("the least case", Due.begun("a", "!a&!b&!c&!d&!e", "0").next(), 0);
        DUE.is("the greatest case", Due.begun("a", "a&b&c&d&e", "0").next(), 31);
        DUE.is("several alike", Due.begun("a", "e", "0").next(), 16);
        DUE.is("one of three tells 1, or two do", Due.begun("a", "a|b", "a", "0").next(), 1);
        DUE.is("two of four, ahead of one and three", Due.begun("a", "!a", "!a", "!a&!b", "a").next(), 2);
        // Only case 31 is not asked, and both are left.
        AskedBack x = Due.begun("1", "0", "a&b&c&d&e");
        for (int c = 0; c < 31; c++) {
            x.answer(c, 0);
        }
        DUE.is("the last that isn't asked", x.next(), 31);
    }

    private static void nextIsNone() {
        DUE.sentence("NONE if all of those LEFT TELL all CASES not asked alike (or none is LEFT)");
        DUE.is("no pictures", Due.begun("a").next(), NONE);
        DUE.is("one picture", Due.begun("a", "a").next(), NONE);
        DUE.is("all alike", Due.begun("a", "a", "!!a", "a&1").next(), NONE);
        AskedBack none = Due.begun("1", "a", "a&b");
        none.answer(0, 1);
        DUE.is("none is left", none.count(4), 0);
        DUE.is("next with none left", none.next(), NONE);
        AskedBack unlike = Due.begun("a", "a", "a&!(b&c&d&e)");
        unlike.set(0, 3);
        DUE.is("they part at one case", unlike.next(), 31);
        unlike.answer(31, 1);
        DUE.is("both are left", unlike.count(4), 2);
        DUE.is("but that one was asked", unlike.next(), NONE);
        AskedBack all = Due.begun("1", "0", "a&b&c&d&e", "b&c&d&e");
        all.set(0, 3);
        for (int c = 0; c < 32; c++) {
            all.answer(c, c > 29 ? 1 : 0);
        }
        DUE.is("some are left", all.count(4), 3);
        DUE.is("all cases are asked", all.next(), NONE);
    }

    private static void path() {
        DUE.sentence("PATH: who begins anew, is asked NEXT again and again, and answers by it with no SLIPS let");
        DUE.is("alone", Due.begun("a", "a").pictureOf(0, 2), 0);
        DUE.is("alike", Due.begun("a", "a", "a").pictureOf(1, 2), 0);
        AskedBack x = Due.begun("0", "0", "a&b&c&!d", "a&b&d&!c", "c&d&e&!a");
        int[] due = {3, 1, 2, 3};
        for (int k = 0; k < 4; k++) {
            DUE.is("at first, of " + k, x.pictureOf(k, 2), due[k]);
        }
        x.set(0, 3);
        x.set(2, 1);
        x.answer(7, 1);
        x.answer(11, 1);
        x.answer(28, 0);
        DUE.is("done", x.count(5), 1);
        for (int k = 0; k < 4; k++) {
            DUE.is("slips, answers and the end don't matter, of " + k, x.pictureOf(k, 2), due[k]);
        }
    }

    private static void tenSaid() {
        DUE.sentence("SAID are FORMULAS of the learner, up to 10");
        AskedBack x = Due.begun("a");
        for (int number = 0; number < 10; number++) {
            DUE.is("say", Due.say(x, "a"), number);
        }
        Due.feed(x, "a");
        DUE.is("an eleventh", x.say(1), -2);
        DUE.is("ten", x.count(3), 10);
        x.begin(0);
        DUE.is("begun anew", x.say(1), 0);
    }

    private static void clash() {
        DUE.sentence("A CLASH is the least CASE that two of them TELL otherwise; or .. than the latest ANSWER for it");
        AskedBack x = Due.begun("1");
        for (int number = 0; number < 9; number++) {
            Due.say(x, "a&b&c&d&e");
        }
        DUE.is("nine alike", x.clash(0), NONE);
        x.answer(30, 1);
        DUE.is("an answer", x.clash(0), 30);
        x.answer(0, 1);
        DUE.is("the least answer", x.clash(0), 0);
        x.answer(0, 0);
        DUE.is("the latest answer", x.clash(0), 30);
        Due.say(x, "0");
        DUE.is("the tenth goes ahead of answers", x.clash(0), 31);
        DUE.is("the one", x.clash(1), 0);
        DUE.is("the other", x.clash(2), 9);
    }

    private static void judged() {
        DUE.sentence("JUDGED: how many CASES a FORMULA TELLS otherwise than the law");
        AskedBack x = Due.begun("a^b");
        DUE.is("none", Due.judge(x, "a&!b|!a&b"), 0);
        DUE.is("one", Due.judge(x, "a^b|a&b&c&d&e"), 1);
        DUE.is("the case 0", Due.judge(x, "a^b|!a&!b&!c&!d&!e"), 1);
        DUE.is("all", Due.judge(x, "!(a^b)"), 32);
    }

    private static void bridge() {
        DUE.sentence("A BRIDGE: of the CASES not asked so far that all of those LEFT TELL as the law, the fewest bits unlike");
        AskedBack x = Due.begun("0", "a&b&c&d&e", "0");
        x.set(0, 3);
        DUE.is("not the case that one tells otherwise", x.bridge(31), 15);
        x.answer(15, 1);
        DUE.is("not one that was asked", x.bridge(31), 23);
        x.answer(23, 1);
        x.answer(27, 1);
        x.answer(29, 0);
        DUE.is("the last with one bit unlike", x.bridge(31), 30);
        x.answer(30, 0);
        DUE.is("the least with two bits unlike", x.bridge(31), 7);
        AskedBack far = Due.begun("1", "a&b&c&d&e");
        DUE.is("all five bits unlike", far.bridge(0), 31);
        AskedBack least = Due.begun("1", "!(a|b|c|d|e)");
        DUE.is("all five bits unlike, downwards", least.bridge(31), 0);
        least.answer(0, 1);
        DUE.is("none is there", least.bridge(31), NONE);
    }

    private static void revealed() {
        DUE.sentence("REVEALED .. if so many wrong ANSWERS for it (1 to 5; 3 at first) were given");
        for (int wanted = 0; wanted <= 5; wanted++) {
            AskedBack x = Due.begun("!a");
            x.set(1, wanted);
            int due = wanted == 0 ? 3 : wanted;
            for (int wrong = 1; wrong <= 5; wrong++) {
                x.answer(0, 0);
                x.answer(31, 1);
                DUE.is(wrong + " wrong of " + due, x.reveal(0), wrong < due ? NONE : 1);
                DUE.is(wrong + " wrong of " + due + ", a law that tells 0", x.reveal(31), wrong < due ? NONE : 0);
                DUE.is("wrong ones for others don't count", x.reveal(2), NONE);
            }
        }
    }

    private static void done() {
        DUE.sentence("DONE when the latest N ANSWERS (N 1 to 8; 3 at first) were all right, each for a fresh CASE");
        for (int wanted = 0; wanted <= 8; wanted++) {
            int due = wanted == 0 ? 3 : wanted;
            AskedBack x = Due.begun("0");
            x.answer(31, 1);
            x.set(2, wanted);
            for (int right = 1; right <= due; right++) {
                DUE.is(right - 1 + " right of " + due, x.count(5), 0);
                DUE.is("right", x.answer(right, 0), 1);
            }
            DUE.is(due + " right of " + due, x.count(5), 1);
        }
        AskedBack again = Due.begun("0");
        again.set(2, 1);
        again.answer(4, 1);
        again.answer(4, 0);
        DUE.is("right, but asked ahead of it", again.count(5), 0);
        again.answer(5, 0);
        DUE.is("right and fresh", again.count(5), 1);
        AskedBack fewer = Due.begun("0");
        fewer.answer(0, 0);
        fewer.answer(1, 0);
        fewer.set(2, 2);
        DUE.is("the latest two, once N is 2", fewer.count(5), 1);
        AskedBack last = Due.begun("0");
        for (int given = 0; given < 37; given++) {
            last.answer(0, 1);
        }
        last.answer(1, 0);
        last.answer(2, 0);
        DUE.is("39 answers", last.count(5), 0);
        last.answer(3, 0);
        DUE.is("the fortieth", last.count(5), 1);
    }

    private static void doneStays() {
        DUE.sentence("from then on it stays so");
        AskedBack x = Due.begun("0");
        Due.law(x, 1, "0");
        x.set(2, 1);
        x.answer(0, 0);
        x.set(2, 8);
        DUE.is("with a greater N", x.count(5), 1);
        x.begin(1);
        x.answer(0, 1);
        DUE.is("with another begun, and wrong", x.count(6), 1);
        DUE.no("begin", x.begin(0));
        x.needs(0, 1);
        DUE.is("with a need that isn't done", x.count(6), 1);
    }
}
