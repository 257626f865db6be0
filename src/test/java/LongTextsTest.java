import java.util.Random;

/** Texts of up to sixty bytes that are drawn near the limits of length, brackets and "!", beside PlainFormula. */
public final class LongTextsTest {
    private static final Due DUE = new Due();
    private static final int TEXTS = 5_000;
    private static final int MOST_BYTES = 60;

    /** Few kinds of signs make long rows of like ones, few brackets make texts that are written as they are. */
    private static final String[] SIGNS = {"|^&", "|^&", "|", "^", "&", "|&"};

    private final Random random;
    private final StringBuilder text = new StringBuilder();
    private final String signs;
    private final int bracketsInTen;

    private LongTextsTest(int seed) {
        random = new Random(seed);
        signs = SIGNS[random.nextInt(SIGNS.length)];
        bracketsInTen = random.nextInt(8);
    }

    public static void main(String[] args) {
        int formulas = 0;
        int full = 0;
        for (int seed = 0; seed < TEXTS; seed++) {
            String text = new LongTextsTest(seed).draw();
            boolean formula = PlainFormula.isFormula(text);
            formulas += formula ? 1 : 0;
            full += formula && text.length() > 50 ? 1 : 0;
            compare(text, formula);
        }
        // Were most texts faulty or short, the comparison would say little.
        DUE.yes("a third are formulas", formulas > TEXTS / 3);
        DUE.yes("a tenth are formulas of more than fifty bytes", full > TEXTS / 10);
        DUE.end();
    }

    private static void compare(String text, boolean formula) {
        AskedBack x = new AskedBack();
        String name = "\"" + text + "\"";
        DUE.is("law " + name, Due.law(x, 0, text) ? 1 : 0, formula ? 1 : 0);
        DUE.is("fault " + name, x.fault(), PlainFormula.fault(text));
        if (!formula) {
            return;
        }
        DUE.is("written " + name, Due.written(x, 0, AskedBack.NONE), PlainFormula.written(text));
        for (int c = 0; c < 32; c++) {
            DUE.is("tells " + c + " " + name, x.tells(0, AskedBack.NONE, c), PlainFormula.tells(text, c));
        }
    }

    /** A long formula, now and then with a byte changed, put in or left out. */
    private String draw() {
        addPart(0);
        while (text.length() < 30 + random.nextInt(30)) {
            addSign();
            addPart(0);
        }
        if (random.nextInt(4) == 0) {
            text.setCharAt(drawPlace(), drawByte());
        }
        if (random.nextInt(8) == 0) {
            text.insert(drawPlace(), drawByte());
        }
        if (random.nextInt(8) == 0) {
            text.deleteCharAt(drawPlace());
        }
        text.setLength(Math.min(text.length(), MOST_BYTES));
        return text.toString();
    }

    private int drawPlace() {
        return random.nextInt(Math.min(text.length(), MOST_BYTES));
    }

    private char drawByte() {
        return "()!|^&abcde01 \nf)(!".charAt(random.nextInt(19));
    }

    private void addBlank() {
        if (random.nextInt(12) == 0) {
            text.append(random.nextBoolean() ? ' ' : '\n');
        }
    }

    private void addSign() {
        addBlank();
        text.append(signs.charAt(random.nextInt(signs.length())));
        addBlank();
    }

    private void addPart(int depth) {
        // A ninth "!" or bracket comes seldom, so that most texts stay formulas.
        int most = random.nextInt(60) == 0 ? 10 : 8;
        int nots = random.nextInt(6) == 0 ? random.nextInt(most + 1) : random.nextInt(4) / 3;
        for (int i = 0; i < nots; i++) {
            text.append('!');
            addBlank();
        }
        if (depth < most && text.length() + depth < 50 && random.nextInt(10) < bracketsInTen) {
            addBracket(depth + 1);
        } else {
            text.append("abcde01".charAt(random.nextInt(7)));
        }
    }

    private void addBracket(int depth) {
        text.append('(');
        addBlank();
        addPart(depth);
        while (random.nextInt(2) == 0 && text.length() + depth < 50) {
            addSign();
            addPart(depth);
        }
        addBlank();
        text.append(')');
    }
}
