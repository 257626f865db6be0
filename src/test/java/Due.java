import java.nio.charset.StandardCharsets;
import java.util.Arrays;

/** Counts answers that are not as due, and puts texts on an object's tape. */
final class Due {
    private int wrong = 0;
    private String sentence = "";

    /** The document's sentence that the answers from here on belong to: it is printed with each wrong one. */
    void sentence(String words) {
        sentence = "[" + words + "] ";
    }

    void is(String what, long got, long want) {
        if (got != want) {
            wrong++;
            System.out.println(sentence + what + " answered " + got + ", due is " + want);
        }
    }

    void is(String what, String got, String want) {
        if (!got.equals(want)) {
            wrong++;
            System.out.println(sentence + what + " answered \"" + got + "\", due is \"" + want + "\"");
        }
    }

    void yes(String what, boolean got) {
        is(what, got ? 1 : 0, 1);
    }

    void no(String what, boolean got) {
        is(what, got ? 1 : 0, 0);
    }

    /** Ends the program with exit code 1 if an answer was wrong. */
    void end() {
        System.out.println(wrong == 0 ? "all answers are as due" : wrong + " answers are not as due");
        if (wrong != 0) {
            System.exit(1);
        }
    }

    /** The five numbers of a feed() for the twenty bytes from a place on, blanks behind the text's end. */
    static int[] numbers(String text, int from) {
        byte[] bytes = new byte[20];
        Arrays.fill(bytes, (byte) ' ');
        byte[] all = text.getBytes(StandardCharsets.ISO_8859_1);
        for (int i = 0; i < 20 && from + i < all.length; i++) {
            bytes[i] = all[from + i];
        }
        int[] numbers = new int[5];
        for (int i = 0; i < 20; i++) {
            numbers[i / 4] = numbers[i / 4] << 8 | bytes[i] & 255;
        }
        return numbers;
    }

    static int feed(AskedBack x, String text) {
        int answered = 0;
        for (int from = 0; from < text.length(); from += 20) {
            int[] n = numbers(text, from);
            answered = x.feed(n[0], n[1], n[2], n[3], n[4]);
        }
        return answered;
    }

    static boolean law(AskedBack x, int lesson, String text) {
        feed(x, text);
        return x.law(lesson, text.length());
    }

    static int picture(AskedBack x, int lesson, String text) {
        feed(x, text);
        return x.picture(lesson, text.length());
    }

    static int say(AskedBack x, String text) {
        feed(x, text);
        return x.say(text.length());
    }

    static int judge(AskedBack x, String text) {
        feed(x, text);
        return x.judge(text.length());
    }

    /** The text of a law or picture as it is written. */
    static String written(AskedBack x, int lesson, int picture) {
        StringBuilder text = new StringBuilder();
        int length = x.written(lesson, picture, AskedBack.NONE);
        for (int i = 0; i < length; i++) {
            text.append((char) x.written(lesson, picture, i));
        }
        return text.toString();
    }

    /** The fault's place of a text that a new object reads as a law. */
    static int faultOf(String text) {
        AskedBack x = new AskedBack();
        law(x, 0, text);
        return x.fault();
    }

    /** A text as a new object writes it. */
    static String writtenAnew(String text) {
        AskedBack x = new AskedBack();
        law(x, 0, text);
        return written(x, 0, AskedBack.NONE);
    }

    /** A new object whose lesson 0 has a law and pictures and is begun. */
    static AskedBack begun(String law, String... pictures) {
        AskedBack x = new AskedBack();
        law(x, 0, law);
        for (String picture : pictures) {
            picture(x, 0, picture);
        }
        x.begin(0);
        return x;
    }

    /** A new object whose lessons 0 to 5 have the law 1 and are done by one right answer each. */
    static AskedBack quick() {
        AskedBack x = new AskedBack();
        for (int lesson = 0; lesson < 6; lesson++) {
            law(x, lesson, "1");
        }
        x.set(2, 1);
        return x;
    }
}
