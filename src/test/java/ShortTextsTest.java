/** Every text of up to five of these signs, beside the plain formulas: its fault, what it tells, how it's written. */
public final class ShortTextsTest {
    private static final String SIGNS = "ab!()|^& ";
    private static final int LONGEST = 5;
    private static final Due DUE = new Due();

    public static void main(String[] args) {
        look("");
        DUE.end();
    }

    private static void look(String text) {
        AskedBack x = new AskedBack();
        boolean kept = Due.law(x, 0, text);
        int fault = PlainFormula.fault(text);
        DUE.is("fault of \"" + text + "\"", x.fault(), fault);
        DUE.is("law of \"" + text + "\"", kept ? 1 : 0, fault == -1 ? 1 : 0);
        DUE.is("written \"" + text + "\"", Due.written(x, 0, -1), fault == -1 ? PlainFormula.written(text) : "");
        for (int c = 0; c < 4; c++) {
            DUE.is("\"" + text + "\" of " + c, x.tells(0, -1, c), fault == -1 ? PlainFormula.tells(text, c) : -1);
        }
        if (text.length() < LONGEST) {
            for (char sign : SIGNS.toCharArray()) {
                look(text + sign);
            }
        }
    }
}
