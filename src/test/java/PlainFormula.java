import java.util.ArrayList;
import java.util.List;

/**
 * Formulas once more, for comparison and in another way: a text is cut at the loosest sign outside of
 * brackets, and a fault is sought by asking of each beginning whether any end makes it a formula.
 */
final class PlainFormula {
    static final String SIGNS = "|^&";

    private PlainFormula() {
    }

    static boolean isBlank(char sign) {
        return sign == ' ' || sign == '\n';
    }

    static String withoutBlanks(String text) {
        return text.replace(" ", "").replace("\n", "");
    }

    static boolean isFormula(String text) {
        String bare = withoutBlanks(text);
        return keepsLimits(bare) && isRow(bare, 0);
    }

    private static boolean keepsLimits(String bare) {
        int depth = 0;
        for (char sign : bare.toCharArray()) {
            depth += sign == '(' ? 1 : sign == ')' ? -1 : 0;
            if (depth > 8 || depth < 0) {
                return false;
            }
        }
        return depth == 0 && !bare.contains("!!!!!!!!!");
    }

    private static boolean isRow(String bare, int level) {
        if (level == SIGNS.length()) {
            return isNot(bare);
        }
        for (String part : cut(bare, SIGNS.charAt(level))) {
            if (!isRow(part, level + 1)) {
                return false;
            }
        }
        return true;
    }

    private static boolean isNot(String bare) {
        if (bare.startsWith("!")) {
            return isNot(bare.substring(1));
        }
        if (bare.length() == 1) {
            return "abcde01".contains(bare);
        }
        return bare.length() > 2 && bare.startsWith("(") && bare.endsWith(")")
            && isRow(bare.substring(1, bare.length() - 1), 0);
    }

    /** The parts between the signs that stand outside of brackets. */
    private static List<String> cut(String bare, char sign) {
        List<String> parts = new ArrayList<>();
        int depth = 0;
        int from = 0;
        for (int i = 0; i < bare.length(); i++) {
            char at = bare.charAt(i);
            depth += at == '(' ? 1 : at == ')' ? -1 : 0;
            if (at == sign && depth == 0) {
                parts.add(bare.substring(from, i));
                from = i + 1;
            }
        }
        parts.add(bare.substring(from));
        return parts;
    }

    /** The fault's place, -1 if there is none. */
    static int fault(String text) {
        for (int i = 0; i < text.length(); i++) {
            if (!isBlank(text.charAt(i)) && !goesOn(text.substring(0, i + 1))) {
                return i;
            }
        }
        return isFormula(text) ? -1 : text.length();
    }

    private static boolean goesOn(String beginning) {
        for (int closed = 0; closed <= 8; closed++) {
            String brackets = ")".repeat(closed);
            if (isFormula(beginning + brackets) || isFormula(beginning + "a" + brackets)) {
                return true;
            }
        }
        return false;
    }

    /** What a formula tells of a case. */
    static int tells(String text, int c) {
        return told(withoutBlanks(text), 0, c);
    }

    private static int told(String bare, int level, int c) {
        if (level == SIGNS.length()) {
            return toldByNot(bare, c);
        }
        char sign = SIGNS.charAt(level);
        int told = sign == '&' ? 1 : 0;
        for (String part : cut(bare, sign)) {
            int other = told(part, level + 1, c);
            told = sign == '|' ? Math.max(told, other) : sign == '^' ? (told + other) % 2 : told * other;
        }
        return told;
    }

    private static int toldByNot(String bare, int c) {
        switch (bare.charAt(0)) {
            case '!':
                return 1 - toldByNot(bare.substring(1), c);
            case '(':
                return told(bare.substring(1, bare.length() - 1), 0, c);
            case '0':
                return 0;
            case '1':
                return 1;
            default:
                return c / (int) Math.pow(2, bare.charAt(0) - 'a') % 2;
        }
    }

    /** A formula as it is written. */
    static String written(String text) {
        return writtenBare(withoutBlanks(text));
    }

    private static String writtenBare(String bare) {
        for (char sign : SIGNS.toCharArray()) {
            List<String> parts = cut(bare, sign);
            if (parts.size() > 1) {
                List<String> anew = new ArrayList<>();
                for (String part : parts) {
                    anew.add(inside(writtenBare(part), SIGNS.indexOf(sign)));
                }
                return String.join(String.valueOf(sign), anew);
            }
        }
        if (bare.startsWith("!")) {
            return "!" + inside(writtenBare(bare.substring(1)), SIGNS.length());
        }
        return bare.startsWith("(") ? writtenBare(bare.substring(1, bare.length() - 1)) : bare;
    }

    /** A written part, in brackets if its loosest sign is looser than the level around it. */
    private static String inside(String part, int level) {
        for (int looser = 0; looser < level; looser++) {
            if (cut(part, SIGNS.charAt(looser)).size() > 1) {
                return "(" + part + ")";
            }
        }
        return part;
    }
}
