import java.util.Arrays;

/**
 * A questioner: lessons with a law each and pictures that a learner may have of it, the question that
 * parts these pictures best, and what the learner answered and said.
 */
public final class AskedBack {
    /** There is none. */
    public static final int NONE = -1;

    private static final int REFUSED = -2;
    private static final int CASES = 32;
    private static final int LESSONS = 6;
    private static final int MOST_PICTURES = 12;
    private static final int MOST_ANSWERS = 40;
    private static final int MOST_SAID = 10;
    private static final int MOST_BYTES = 60;
    private static final int TAPE_BYTES = 80;
    private static final int FED_BYTES = 20;

    private final Tape tape;
    private final Reader reader;
    private final Course course;
    private final Talk talk;
    private int begun;
    private int latestFault;
    private int slipsLet;
    private int wrongAhead;
    private int freshForDone;

    public AskedBack() {
        tape = new Tape();
        reader = new Reader(tape);
        course = new Course();
        talk = new Talk();
        begun = NONE;
        latestFault = NONE;
        slipsLet = 0;
        wrongAhead = 3;
        freshForDone = 3;
    }

    public int feed(int a, int b, int c, int d, int e) {
        if (tape.length + FED_BYTES > TAPE_BYTES) {
            return NONE;
        }
        tape.append(a);
        tape.append(b);
        tape.append(c);
        tape.append(d);
        tape.append(e);
        return tape.length;
    }

    public boolean law(int lesson, int n) {
        Lesson changed = changeable(lesson);
        if (changed == null || !tape.offers(n) || !readTape(n)) {
            return false;
        }
        changed.law = reader.formula();
        return true;
    }

    public int picture(int lesson, int n) {
        Lesson changed = changeable(lesson);
        if (changed == null || changed.pictureCount >= MOST_PICTURES || !tape.offers(n)) {
            return REFUSED;
        }
        return readTape(n) ? changed.addPicture(reader.formula()) : NONE;
    }

    public int fault() {
        return latestFault;
    }

    public int tells(int lesson, int picture, int c) {
        Formula asked = formulaAt(lesson, picture);
        return asked == null || !isCase(c) ? NONE : bitAt(asked.truth, c);
    }

    public int written(int lesson, int picture, int i) {
        Formula asked = formulaAt(lesson, picture);
        if (asked == null) {
            return NONE;
        }
        return i == NONE ? asked.length() : asked.byteAt(i);
    }

    public boolean needs(int a, int b) {
        return course.addNeed(a, b);
    }

    public int open() {
        for (int lesson = 0; lesson < LESSONS; lesson++) {
            if (course.mayBegin(lesson)) {
                return lesson;
            }
        }
        return NONE;
    }

    public boolean begin(int lesson) {
        if (!course.mayBegin(lesson)) {
            return false;
        }
        begun = lesson;
        talk.clear();
        return true;
    }

    public boolean set(int what, int value) {
        switch (what) {
            case 0:
                if (value < 0 || value > 3) {
                    return false;
                }
                slipsLet = value;
                return true;
            case 1:
                if (value < 1 || value > 5) {
                    return false;
                }
                wrongAhead = value;
                return true;
            case 2:
                if (value < 1 || value > 8) {
                    return false;
                }
                freshForDone = value;
                // A smaller N may be met by the answers that stand already.
                endIfDone();
                return true;
            default:
                return false;
        }
    }

    public int answer(int c, int value) {
        Formula law = begunLaw();
        if (law == null || course.isDone(begun) || !isCase(c)) {
            return NONE;
        }
        if (value < 0 || value > 1 || talk.answers >= MOST_ANSWERS) {
            return NONE;
        }
        boolean right = bitAt(law.truth, c) == value;
        talk.addAnswer(c, value, right);
        endIfDone();
        return right ? 1 : 0;
    }

    public int pictureOf(int k, int what) {
        Lesson lesson = course.lessonAt(begun);
        if (lesson == null) {
            return NONE;
        }
        Formula picture = lesson.pictureAt(k);
        if (picture == null) {
            return NONE;
        }
        switch (what) {
            case 0:
                return talk.slipsOf(picture.truth);
            case 1:
                return talk.slipsOf(picture.truth) <= slipsLet ? 1 : 0;
            case 2:
                return lesson.pathOf(k);
            default:
                return NONE;
        }
    }

    public int next() {
        Lesson lesson = course.lessonAt(begun);
        return lesson == null ? NONE : lesson.partingCase(leftOf(lesson), talk.asked);
    }

    public int longest() {
        Lesson lesson = course.lessonAt(begun);
        if (lesson == null) {
            return NONE;
        }
        int longest = NONE;
        for (int k = 0; k < lesson.pictureCount; k++) {
            longest = Math.max(longest, lesson.pathOf(k));
        }
        return longest;
    }

    public int say(int n) {
        if (begunLaw() == null || talk.saidCount >= MOST_SAID || !tape.offers(n)) {
            return REFUSED;
        }
        return readTape(n) ? talk.addSaid(reader.truth) : NONE;
    }

    public int judge(int n) {
        Formula law = begunLaw();
        if (law == null || !tape.offers(n)) {
            return REFUSED;
        }
        return readTape(n) ? Integer.bitCount(reader.truth ^ law.truth) : NONE;
    }

    public int clash(int what) {
        int apart = talk.saidApart();
        boolean amongSaid = apart != 0;
        if (!amongSaid) {
            apart = talk.saidUnlikeAnswers();
        }
        int c = leastBit(apart);
        if (c == NONE) {
            return NONE;
        }
        switch (what) {
            case 0:
                return c;
            case 1:
                // Where two of them differ, the first of all differs from one; where none do, all clash alike.
                return 0;
            case 2:
                return amongSaid ? talk.firstUnlikeFirst(c) : NONE;
            default:
                return NONE;
        }
    }

    public int bridge(int c) {
        Lesson lesson = course.lessonAt(begun);
        if (lesson == null || !isCase(c)) {
            return NONE;
        }
        return lesson.nearestToldAsLaw(c, leftOf(lesson), talk.asked);
    }

    public int reveal(int c) {
        Formula law = begunLaw();
        if (law == null || !isCase(c) || talk.wrongOf(c, law.truth) < wrongAhead) {
            return NONE;
        }
        return bitAt(law.truth, c);
    }

    public int caseOf(int c, int what) {
        Formula law = begunLaw();
        if (law == null || !isCase(c)) {
            return NONE;
        }
        switch (what) {
            case 0:
                return talk.timesAsked(c);
            case 1:
                return talk.wrongOf(c, law.truth);
            case 2:
                return talk.latestOf(c);
            default:
                return NONE;
        }
    }

    public int count(int what) {
        switch (what) {
            case 0:
                return begun;
            case 1:
                return talk.answers;
            case 2:
                return talk.rightAnswers;
            case 3:
                return talk.saidCount;
            case 4:
                return Integer.bitCount(leftOf(course.lessonAt(begun)));
            case 5:
                return course.isDone(begun) ? 1 : 0;
            case 6:
                return course.done;
            case 7:
                return tape.length;
            default:
                return NONE;
        }
    }

    /** The lesson, if its law and pictures may still change; null if not. */
    private Lesson changeable(int lesson) {
        return lesson == begun || course.isDone(lesson) ? null : course.lessonAt(lesson);
    }

    /** A law (picture NONE) or picture; null if there is none such. */
    private Formula formulaAt(int lesson, int picture) {
        Lesson holder = course.lessonAt(lesson);
        if (holder == null) {
            return null;
        }
        return picture == NONE ? holder.law : holder.pictureAt(picture);
    }

    private Formula begunLaw() {
        return formulaAt(begun, NONE);
    }

    /** Reads the first n bytes and empties the tape; whether they are a formula. */
    private boolean readTape(int n) {
        latestFault = reader.readText(n);
        tape.clear();
        return latestFault == NONE;
    }

    private void endIfDone() {
        if (begun != NONE && talk.freshRun >= freshForDone) {
            course.end(begun);
        }
    }

    /** The pictures that are left, as bits. */
    private int leftOf(Lesson lesson) {
        if (lesson == null) {
            return 0;
        }
        int left = 0;
        for (int k = 0; k < lesson.pictureCount; k++) {
            Formula picture = lesson.pictureAt(k);
            if (picture != null && talk.slipsOf(picture.truth) <= slipsLet) {
                left |= 1 << k;
            }
        }
        return left;
    }

    private static boolean isCase(int c) {
        return c >= 0 && c < CASES;
    }

    private static int bitAt(int bits, int place) {
        return (bits >>> place) & 1;
    }

    private static int leastBit(int bits) {
        for (int place = 0; place < CASES; place++) {
            if (bitAt(bits, place) == 1) {
                return place;
            }
        }
        return NONE;
    }

    /** The bytes that were fed and not yet read. */
    private static final class Tape {
        static final int END = -1;

        final byte[] bytes = new byte[TAPE_BYTES];
        int length = 0;

        void append(int number) {
            for (int shift = 24; shift >= 0; shift -= 8) {
                if (length >= 0 && length < bytes.length) {
                    bytes[length] = (byte) (number >>> shift);
                    length++;
                }
            }
        }

        boolean offers(int n) {
            return n >= 0 && n <= MOST_BYTES && n <= length;
        }

        int byteAt(int place) {
            return place >= 0 && place < length && place < bytes.length ? bytes[place] & 255 : END;
        }

        void clear() {
            length = 0;
        }
    }

    /** What a text means: a bit for each case that it tells 1, and how it is written. */
    private static final class Formula {
        final int truth;
        final byte[] text;

        Formula(int truth, byte[] text) {
            this.truth = truth;
            this.text = text;
        }

        int length() {
            return text == null ? 0 : text.length;
        }

        int byteAt(int i) {
            return text != null && i >= 0 && i < text.length ? text[i] : NONE;
        }
    }

    /**
     * Reads a formula off the tape and writes it anew while it reads: brackets are left out at first and
     * put around a part as soon as a sign beside it binds closer than the part does.
     */
    private static final class Reader {
        static final int OR = 0;
        static final int XOR = 1;
        static final int AND = 2;
        static final int CLOSEST = 3;
        static final int MOST_BRACKETS = 8;
        static final int MOST_NOTS = 8;
        static final char[] SIGNS = {'|', '^', '&'};
        static final int[] LETTER_TRUTHS = {0xAAAAAAAA, 0xCCCCCCCC, 0xF0F0F0F0, 0xFF00FF00, 0xFFFF0000};

        final Tape tape;
        final byte[] out = new byte[2 * MOST_BYTES];
        int outLength = 0;
        int end = 0;
        int place = 0;
        int faultPlace = NONE;
        /** How close the part that was read last binds. */
        int binding = CLOSEST;
        int truth = 0;

        Reader(Tape tape) {
            this.tape = tape;
        }

        /** Reads the first n bytes: the place of the fault, or NONE. */
        int readText(int n) {
            end = n;
            place = 0;
            outLength = 0;
            faultPlace = NONE;
            truth = readRow(OR, 0);
            if (look() != Tape.END) {
                fail();
            }
            return faultPlace;
        }

        /** What was read last, in a form that stays. */
        Formula formula() {
            return new Formula(truth, Arrays.copyOf(out, Math.max(0, outLength)));
        }

        /** Reads parts with the sign of a level between them; what they tell together. */
        private int readRow(int level, int depth) {
            int start = outLength;
            int told = readPart(level, depth);
            for (int joined = 0; joined < MOST_BYTES && look() == signOf(level); joined++) {
                bracketIfLooser(start, level);
                copySign();
                int partStart = outLength;
                int other = readPart(level, depth);
                bracketIfLooser(partStart, level);
                told = join(level, told, other);
                binding = level;
            }
            return told;
        }

        private int readPart(int level, int depth) {
            return level >= AND ? readNots(depth) : readRow(level + 1, depth);
        }

        private int readNots(int depth) {
            int nots = 0;
            while (nots < MOST_NOTS && look() == '!') {
                copySign();
                nots++;
            }
            int start = outLength;
            // A ninth "!" is no beginning of an atom, so it is the fault.
            int told = readAtom(depth);
            if (nots > 0) {
                bracketIfLooser(start, CLOSEST);
                binding = CLOSEST;
            }
            return nots % 2 == 0 ? told : ~told;
        }

        private int readAtom(int depth) {
            int sign = look();
            if (sign == '(' && depth < MOST_BRACKETS) {
                return readBracket(depth + 1);
            }
            binding = CLOSEST;
            int letter = sign - 'a';
            if (letter >= 0 && letter < LETTER_TRUTHS.length) {
                copySign();
                return LETTER_TRUTHS[letter];
            }
            if (sign == '0' || sign == '1') {
                copySign();
                return sign == '1' ? ~0 : 0;
            }
            fail();
            return 0;
        }

        private int readBracket(int depth) {
            place++;
            int told = readRow(OR, depth);
            if (look() == ')') {
                place++;
            } else {
                fail();
            }
            return told;
        }

        /** The next byte that is no blank, which stays ahead; END behind the last. */
        private int look() {
            while (place < end && isBlank(tape.byteAt(place))) {
                place++;
            }
            return place < end ? tape.byteAt(place) : Tape.END;
        }

        /** Only the first fault counts; what follows it is passed over, so that all readers end. */
        private void fail() {
            if (faultPlace == NONE) {
                faultPlace = place;
            }
            place = end;
        }

        private void copySign() {
            if (outLength >= 0 && outLength < out.length) {
                out[outLength] = (byte) tape.byteAt(place);
                outLength++;
            }
            place++;
        }

        private void bracketIfLooser(int start, int level) {
            if (binding >= level || start < 0 || start > outLength || outLength + 2 > out.length) {
                return;
            }
            System.arraycopy(out, start, out, start + 1, outLength - start);
            out[start] = '(';
            out[outLength + 1] = ')';
            outLength += 2;
        }

        private static int signOf(int level) {
            return level >= 0 && level < SIGNS.length ? SIGNS[level] : NONE - 1;
        }

        private static int join(int level, int one, int other) {
            switch (level) {
                case OR:
                    return one | other;
                case XOR:
                    return one ^ other;
                default:
                    return one & other;
            }
        }

        private static boolean isBlank(int sign) {
            return sign == ' ' || sign == '\n';
        }
    }

    /** A law and the pictures of it. */
    private static final class Lesson {
        final Formula[] pictures = new Formula[MOST_PICTURES];
        /** For each case the pictures that tell 1 of it, as bits: so NEXT only counts bits. */
        final int[] tellers = new int[CASES];
        int pictureCount = 0;
        Formula law = null;

        int addPicture(Formula picture) {
            int k = pictureCount;
            if (picture == null || k < 0 || k >= pictures.length) {
                return NONE;
            }
            pictures[k] = picture;
            for (int c = 0; c < tellers.length; c++) {
                tellers[c] |= bitAt(picture.truth, c) << k;
            }
            pictureCount++;
            return k;
        }

        Formula pictureAt(int k) {
            return k >= 0 && k < pictureCount && k < pictures.length ? pictures[k] : null;
        }

        /** The case that parts those left best; one that they all tell alike leaves them whole, so it is no better. */
        int partingCase(int left, int asked) {
            int whole = Integer.bitCount(left);
            int least = whole;
            int best = NONE;
            for (int c = 0; c < tellers.length; c++) {
                int ones = Integer.bitCount(tellers[c] & left);
                int greater = Math.max(ones, whole - ones);
                if (bitAt(asked, c) == 0 && greater < least) {
                    least = greater;
                    best = c;
                }
            }
            return best;
        }

        /** How many questions single out picture k, from the start and without slips. */
        int pathOf(int k) {
            int left = (1 << pictureCount) - 1;
            int asked = 0;
            for (int questions = 0; questions < CASES; questions++) {
                int c = partingCase(left, asked);
                if (c < 0 || c >= tellers.length) {
                    return questions;
                }
                asked |= 1 << c;
                left &= bitAt(tellers[c], k) == 1 ? tellers[c] : ~tellers[c];
            }
            return CASES;
        }

        int nearestToldAsLaw(int from, int left, int asked) {
            int fewest = CASES;
            int nearest = NONE;
            for (int c = 0; c < CASES; c++) {
                int unlike = Integer.bitCount(c ^ from);
                if (bitAt(asked, c) == 0 && unlike < fewest && allTellAsLaw(c, left)) {
                    fewest = unlike;
                    nearest = c;
                }
            }
            return nearest;
        }

        private boolean allTellAsLaw(int c, int left) {
            if (law == null || c < 0 || c >= tellers.length) {
                return false;
            }
            int due = bitAt(law.truth, c) == 1 ? left : 0;
            return (tellers[c] & left) == due;
        }
    }

    /** The lessons, which of them need which, and which are done. */
    private static final class Course {
        final Lesson[] lessons = new Lesson[LESSONS];
        /** For each lesson those that it needs itself, as bits. */
        final int[] needed = new int[LESSONS];
        /** The lessons that are done, as bits. */
        int done = 0;

        Course() {
            for (int i = 0; i < lessons.length; i++) {
                lessons[i] = new Lesson();
            }
        }

        Lesson lessonAt(int i) {
            return isLesson(i) ? lessons[i] : null;
        }

        boolean isDone(int i) {
            return isLesson(i) && bitAt(done, i) == 1;
        }

        void end(int i) {
            if (isLesson(i)) {
                done |= 1 << i;
            }
        }

        boolean mayBegin(int i) {
            Lesson lesson = lessonAt(i);
            return lesson != null && lesson.law != null && !isDone(i) && (needed[i] & ~done) == 0;
        }

        boolean addNeed(int a, int b) {
            if (!isLesson(a) || !isLesson(b) || a == b) {
                return false;
            }
            if (bitAt(needed[a], b) == 1 || bitAt(neededInTheEnd(b), a) == 1) {
                return false;
            }
            needed[a] |= 1 << b;
            return true;
        }

        /** All that a lesson needs, also by way of others; as many rounds as lessons reach the farthest. */
        private int neededInTheEnd(int lesson) {
            int reached = 1 << lesson;
            for (int round = 0; round < LESSONS; round++) {
                for (int i = 0; i < needed.length; i++) {
                    if (bitAt(reached, i) == 1) {
                        reached |= needed[i];
                    }
                }
            }
            return reached;
        }

        private static boolean isLesson(int i) {
            return i >= 0 && i < LESSONS;
        }
    }

    /** What the learner answered and said since the lesson was begun. */
    private static final class Talk {
        /** How often each case was answered 0, and 1. */
        final int[] zeros = new int[CASES];
        final int[] ones = new int[CASES];
        /** What each formula that was said tells. */
        final int[] said = new int[MOST_SAID];
        int saidCount = 0;
        int asked = 0;
        /** The cases whose latest answer was 1. */
        int latestOnes = 0;
        int answers = 0;
        int rightAnswers = 0;
        /** How many of the latest answers were right, each for a fresh case. */
        int freshRun = 0;

        void clear() {
            Arrays.fill(zeros, 0);
            Arrays.fill(ones, 0);
            saidCount = 0;
            asked = 0;
            latestOnes = 0;
            answers = 0;
            rightAnswers = 0;
            freshRun = 0;
        }

        void addAnswer(int c, int value, boolean right) {
            if (!isCase(c)) {
                return;
            }
            boolean fresh = bitAt(asked, c) == 0;
            int bit = 1 << c;
            asked |= bit;
            if (value == 1) {
                ones[c]++;
                latestOnes |= bit;
            } else {
                zeros[c]++;
                latestOnes &= ~bit;
            }
            answers++;
            rightAnswers += right ? 1 : 0;
            freshRun = right && fresh ? freshRun + 1 : 0;
        }

        int addSaid(int truth) {
            int number = saidCount;
            if (number < 0 || number >= said.length) {
                return NONE;
            }
            said[number] = truth;
            saidCount++;
            return number;
        }

        int slipsOf(int truth) {
            int slips = 0;
            for (int c = 0; c < CASES; c++) {
                slips += wrongOf(c, truth);
            }
            return slips;
        }

        /** How many answers for a case are otherwise than a truth tells it. */
        int wrongOf(int c, int truth) {
            if (!isCase(c)) {
                return 0;
            }
            return bitAt(truth, c) == 1 ? zeros[c] : ones[c];
        }

        int timesAsked(int c) {
            return isCase(c) ? zeros[c] + ones[c] : 0;
        }

        int latestOf(int c) {
            return bitAt(asked, c) == 1 ? bitAt(latestOnes, c) : NONE;
        }

        /** The cases that two of what was said tell otherwise, as bits. */
        int saidApart() {
            int apart = 0;
            for (int i = 1; i < saidCount && i < said.length; i++) {
                apart |= said[0] ^ said[i];
            }
            return apart;
        }

        /** The cases that the first of what was said tells otherwise than their latest answer, as bits. */
        int saidUnlikeAnswers() {
            return saidCount > 0 ? (said[0] ^ latestOnes) & asked : 0;
        }

        int firstUnlikeFirst(int c) {
            for (int i = 1; i < saidCount && i < said.length; i++) {
                if (bitAt(said[0] ^ said[i], c) == 1) {
                    return i;
                }
            }
            return NONE;
        }
    }
}
