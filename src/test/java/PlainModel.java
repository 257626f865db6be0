import java.util.ArrayList;
import java.util.HashSet;
import java.util.List;
import java.util.Set;

/** The document once more, for comparison: texts and lists, and everything counted anew at each call. */
final class PlainModel {
    private static final int NONE = -1;

    private record Answer(int c, int value) {
    }

    private final StringBuilder tape = new StringBuilder();
    private final String[] laws = new String[6];
    private final List<List<String>> pictures = new ArrayList<>();
    private final List<Set<Integer>> needed = new ArrayList<>();
    private final boolean[] done = new boolean[6];
    private final List<Answer> answers = new ArrayList<>();
    private final List<String> said = new ArrayList<>();
    private final int[] settings = {0, 3, 3};
    private int begun = NONE;
    private int fault = NONE;

    PlainModel() {
        for (int i = 0; i < 6; i++) {
            pictures.add(new ArrayList<>());
            needed.add(new HashSet<>());
        }
    }

    int feed(int[] numbers) {
        if (tape.length() + 20 > 80) {
            return NONE;
        }
        for (int number : numbers) {
            for (int shift = 24; shift >= 0; shift -= 8) {
                tape.append((char) (number >> shift & 255));
            }
        }
        return tape.length();
    }

    private static boolean isLesson(int i) {
        return i >= 0 && i < 6;
    }

    private static boolean isCase(int c) {
        return c >= 0 && c < 32;
    }

    private boolean offers(int n) {
        return n >= 0 && n <= 60 && n <= tape.length();
    }

    private boolean mayChange(int lesson) {
        return isLesson(lesson) && lesson != begun && !done[lesson];
    }

    private String read(int n) {
        String text = tape.substring(0, n);
        tape.setLength(0);
        fault = PlainFormula.fault(text);
        return fault == NONE ? text : null;
    }

    boolean law(int lesson, int n) {
        if (!mayChange(lesson) || !offers(n)) {
            return false;
        }
        String text = read(n);
        if (text == null) {
            return false;
        }
        laws[lesson] = text;
        return true;
    }

    private static int keep(List<String> list, String text) {
        if (text == null) {
            return NONE;
        }
        list.add(text);
        return list.size() - 1;
    }

    int picture(int lesson, int n) {
        if (!mayChange(lesson) || !offers(n) || pictures.get(lesson).size() == 12) {
            return -2;
        }
        return keep(pictures.get(lesson), read(n));
    }

    int fault() {
        return fault;
    }

    private String text(int lesson, int picture) {
        if (!isLesson(lesson) || picture < NONE) {
            return null;
        }
        if (picture == NONE) {
            return laws[lesson];
        }
        return picture < pictures.get(lesson).size() ? pictures.get(lesson).get(picture) : null;
    }

    int tells(int lesson, int picture, int c) {
        String text = text(lesson, picture);
        return text == null || !isCase(c) ? NONE : PlainFormula.tells(text, c);
    }

    int written(int lesson, int picture, int i) {
        String text = text(lesson, picture);
        if (text == null) {
            return NONE;
        }
        String written = PlainFormula.written(text);
        if (i == NONE) {
            return written.length();
        }
        return i >= 0 && i < written.length() ? written.charAt(i) : NONE;
    }

    private boolean reaches(int from, int to) {
        if (from == to) {
            return true;
        }
        for (int other : needed.get(from)) {
            if (reaches(other, to)) {
                return true;
            }
        }
        return false;
    }

    boolean needs(int a, int b) {
        return isLesson(a) && isLesson(b) && a != b && !reaches(b, a) && needed.get(a).add(b);
    }

    private boolean mayBegin(int lesson) {
        if (!isLesson(lesson) || laws[lesson] == null || done[lesson]) {
            return false;
        }
        for (int other : needed.get(lesson)) {
            if (!done[other]) {
                return false;
            }
        }
        return true;
    }

    int open() {
        for (int i = 0; i < 6; i++) {
            if (mayBegin(i)) {
                return i;
            }
        }
        return NONE;
    }

    boolean begin(int lesson) {
        if (!mayBegin(lesson)) {
            return false;
        }
        begun = lesson;
        answers.clear();
        said.clear();
        return true;
    }

    boolean set(int what, int value) {
        int[] least = {0, 1, 1};
        int[] most = {3, 5, 8};
        if (what < 0 || what > 2 || value < least[what] || value > most[what]) {
            return false;
        }
        settings[what] = value;
        lookForTheEnd();
        return true;
    }

    private int lawTells(int c) {
        return PlainFormula.tells(laws[begun], c);
    }

    private void lookForTheEnd() {
        int wanted = settings[2];
        if (begun == NONE || answers.size() < wanted) {
            return;
        }
        for (int i = answers.size() - wanted; i < answers.size(); i++) {
            Answer answer = answers.get(i);
            if (answer.value() != lawTells(answer.c())) {
                return;
            }
            for (int j = 0; j < i; j++) {
                if (answers.get(j).c() == answer.c()) {
                    return;
                }
            }
        }
        done[begun] = true;
    }

    int answer(int c, int value) {
        if (begun == NONE || done[begun] || !isCase(c) || value < 0 || value > 1 || answers.size() == 40) {
            return NONE;
        }
        answers.add(new Answer(c, value));
        lookForTheEnd();
        return value == lawTells(c) ? 1 : 0;
    }

    private static int slips(String picture, List<Answer> answers) {
        int slips = 0;
        for (Answer answer : answers) {
            slips += PlainFormula.tells(picture, answer.c()) == answer.value() ? 0 : 1;
        }
        return slips;
    }

    private List<String> left(List<Answer> given, int let) {
        List<String> left = new ArrayList<>();
        for (String picture : pictures.get(begun)) {
            if (slips(picture, given) <= let) {
                left.add(picture);
            }
        }
        return left;
    }

    private List<String> left() {
        return left(answers, settings[0]);
    }

    private static boolean isAsked(int c, List<Answer> given) {
        for (Answer answer : given) {
            if (answer.c() == c) {
                return true;
            }
        }
        return false;
    }

    private int next(List<Answer> given, int let) {
        List<String> left = left(given, let);
        boolean alike = true;
        int best = NONE;
        int least = Integer.MAX_VALUE;
        for (int c = 0; c < 32; c++) {
            if (isAsked(c, given)) {
                continue;
            }
            int ones = 0;
            for (String picture : left) {
                ones += PlainFormula.tells(picture, c);
            }
            int greater = Math.max(ones, left.size() - ones);
            alike &= ones == 0 || ones == left.size();
            if (greater < least) {
                least = greater;
                best = c;
            }
        }
        return alike ? NONE : best;
    }

    int next() {
        return begun == NONE ? NONE : next(answers, settings[0]);
    }

    private int path(String picture) {
        List<Answer> given = new ArrayList<>();
        for (int c = next(given, 0); c != NONE; c = next(given, 0)) {
            given.add(new Answer(c, PlainFormula.tells(picture, c)));
        }
        return given.size();
    }

    int pictureOf(int k, int what) {
        if (begun == NONE || k < 0 || k >= pictures.get(begun).size() || what < 0 || what > 2) {
            return NONE;
        }
        String picture = pictures.get(begun).get(k);
        if (what == 2) {
            return path(picture);
        }
        int slips = slips(picture, answers);
        return what == 0 ? slips : slips <= settings[0] ? 1 : 0;
    }

    int longest() {
        int longest = NONE;
        if (begun != NONE) {
            for (String picture : pictures.get(begun)) {
                longest = Math.max(longest, path(picture));
            }
        }
        return longest;
    }

    int say(int n) {
        return begun == NONE || !offers(n) || said.size() == 10 ? -2 : keep(said, read(n));
    }

    int judge(int n) {
        if (begun == NONE || !offers(n)) {
            return -2;
        }
        String text = read(n);
        if (text == null) {
            return NONE;
        }
        int unlike = 0;
        for (int c = 0; c < 32; c++) {
            unlike += PlainFormula.tells(text, c) == lawTells(c) ? 0 : 1;
        }
        return unlike;
    }

    int clash(int what) {
        if (what < 0 || what > 2) {
            return NONE;
        }
        for (int c = 0; c < 32; c++) {
            for (int i = 0; i < said.size(); i++) {
                for (int j = i + 1; j < said.size(); j++) {
                    if (PlainFormula.tells(said.get(i), c) != PlainFormula.tells(said.get(j), c)) {
                        return new int[] {c, i, j}[what];
                    }
                }
            }
        }
        for (int c = 0; c < 32; c++) {
            int latest = caseOf(c, 2);
            for (int i = 0; i < said.size() && latest != NONE; i++) {
                if (PlainFormula.tells(said.get(i), c) != latest) {
                    return new int[] {c, i, NONE}[what];
                }
            }
        }
        return NONE;
    }

    int bridge(int c) {
        if (begun == NONE || !isCase(c)) {
            return NONE;
        }
        for (int bits = 0; bits <= 5; bits++) {
            for (int other = 0; other < 32; other++) {
                if (Integer.bitCount(c ^ other) == bits && !isAsked(other, answers) && isToldByAll(other)) {
                    return other;
                }
            }
        }
        return NONE;
    }

    private boolean isToldByAll(int c) {
        for (String picture : left()) {
            if (PlainFormula.tells(picture, c) != lawTells(c)) {
                return false;
            }
        }
        return true;
    }

    int reveal(int c) {
        return begun == NONE || !isCase(c) || caseOf(c, 1) < settings[1] ? NONE : lawTells(c);
    }

    int caseOf(int c, int what) {
        if (begun == NONE || !isCase(c) || what < 0 || what > 2) {
            return NONE;
        }
        int asked = 0;
        int wrong = 0;
        int latest = NONE;
        for (Answer answer : answers) {
            if (answer.c() == c) {
                asked++;
                wrong += answer.value() == lawTells(c) ? 0 : 1;
                latest = answer.value();
            }
        }
        return new int[] {asked, wrong, latest}[what];
    }

    private int rightAnswers() {
        int right = 0;
        for (Answer answer : answers) {
            right += answer.value() == lawTells(answer.c()) ? 1 : 0;
        }
        return right;
    }

    private int doneBits() {
        int bits = 0;
        for (int i = 0; i < 6; i++) {
            bits += done[i] ? 1 << i : 0;
        }
        return bits;
    }

    int count(int what) {
        switch (what) {
            case 0:
                return begun;
            case 1:
                return answers.size();
            case 2:
                return begun == NONE ? 0 : rightAnswers();
            case 3:
                return said.size();
            case 4:
                return begun == NONE ? 0 : left().size();
            case 5:
                return begun != NONE && done[begun] ? 1 : 0;
            case 6:
                return doneBits();
            case 7:
                return tape.length();
            default:
                return NONE;
        }
    }
}
