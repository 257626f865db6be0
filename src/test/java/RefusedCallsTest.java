import java.util.ArrayList;
import java.util.List;
import java.util.function.Supplier;
import java.util.function.ToLongFunction;

/**
 * Calls that are refused, or that only look, do nothing: all that an object answers after such a call is what its
 * twin answers without it.
 */
public final class RefusedCallsTest {
    private static final int MIN = Integer.MIN_VALUE;
    private static final int MAX = Integer.MAX_VALUE;
    private static final Due DUE = new Due();

    private record Call(String name, long due, ToLongFunction<AskedBack> made) {
    }

    public static void main(String[] args) {
        untouched("a new object", AskedBack::new, refusedByNew());
        untouched("in the midst", RefusedCallsTest::inTheMidst, refusedInTheMidst());
        untouched("full", RefusedCallsTest::full, refusedByFull());
        untouched("done", RefusedCallsTest::done, refusedByDone());
        untouched("in the midst", RefusedCallsTest::inTheMidst, looks());
        DUE.end();
    }

    private static void untouched(String when, Supplier<AskedBack> recipe, List<Call> calls) {
        String due = trace(recipe.get());
        for (Call call : calls) {
            AskedBack x = recipe.get();
            DUE.sentence(when + ", " + call.name());
            if (call.due() != MIN) {
                DUE.is("the call", call.made().applyAsLong(x), call.due());
            } else {
                call.made().applyAsLong(x);
            }
            DUE.is("what follows", trace(x), due);
        }
    }

    /** All that can be seen of an object, and then what some calls that change it answer: some 300 calls. */
    private static String trace(AskedBack x) {
        StringBuilder seen = new StringBuilder();
        for (int what = 0; what < 8; what++) {
            seen.append(x.count(what)).append(' ');
        }
        seen.append(x.fault()).append(' ').append(x.open()).append(' ').append(x.next()).append(' ').append(x.longest());
        for (int what = 0; what < 3; what++) {
            seen.append(' ').append(x.clash(what));
        }
        for (int c = 0; c < 32; c++) {
            seen.append(' ').append(x.caseOf(c, 0)).append(' ').append(x.caseOf(c, 1)).append(' ').append(x.caseOf(c, 2));
            seen.append(' ').append(x.bridge(c)).append(' ').append(x.reveal(c));
        }
        for (int k = 0; k < 12; k++) {
            seen.append(' ').append(x.pictureOf(k, 0)).append(' ').append(x.pictureOf(k, 1));
        }
        for (int lesson = 0; lesson < 6; lesson++) {
            seen.append(' ').append(x.tells(lesson, -1, 21)).append(' ').append(x.written(lesson, -1, -1));
            seen.append(' ').append(x.written(lesson, 0, 0)).append(' ').append(x.written(lesson, 11, 0));
        }
        return seen.append(after(x)).toString();
    }

    /** What is hidden (the tape's bytes, needs, what was set, the run of right answers) shows in what follows. */
    private static String after(AskedBack x) {
        StringBuilder seen = new StringBuilder();
        seen.append(' ').append(x.feed(0x61202020, 0x20202020, 0x20202020, 0x20202020, 0x20202020));
        seen.append(' ').append(x.law(5, 3)).append(' ').append(x.fault()).append(' ').append(Due.written(x, 5, -1));
        for (int c = 24; c < 29; c++) {
            seen.append(' ').append(x.answer(c, 1)).append(' ').append(x.count(5));
        }
        seen.append(' ').append(Due.say(x, "!a")).append(' ').append(x.clash(1)).append(' ').append(x.clash(2));
        for (int lesson = 0; lesson < 6; lesson++) {
            seen.append(' ').append(x.begin(lesson)).append(' ').append(x.needs(lesson, (lesson + 1) % 6));
            seen.append(' ').append(x.count(0)).append(' ').append(x.open());
        }
        for (int given = 0; given < 5; given++) {
            seen.append(' ').append(x.answer(29, 0)).append(' ').append(x.reveal(29)).append(' ').append(x.count(4));
        }
        return seen.toString();
    }

    /** Lesson 0 is done, 1 begun and answered, 2 needs 3; 5 has no law; something is said; "a|b" is on the tape. */
    private static AskedBack inTheMidst() {
        AskedBack x = Due.begun("a");
        Due.law(x, 1, "1");
        Due.law(x, 2, "c");
        Due.law(x, 3, "d");
        Due.picture(x, 1, "a|b");
        Due.picture(x, 1, "!a");
        x.needs(2, 3);
        x.set(2, 1);
        x.answer(0, 0);
        x.begin(1);
        x.set(0, 1);
        x.set(1, 2);
        x.set(2, 4);
        x.answer(3, 0);
        x.answer(4, 1);
        x.answer(5, 1);
        Due.say(x, "a");
        Due.judge(x, "a&");
        Due.feed(x, "a|b");
        return x;
    }

    /** Lesson 0 is begun with 12 pictures, 40 answers and 10 said; 80 bytes are on the tape. */
    private static AskedBack full() {
        AskedBack x = new AskedBack();
        Due.law(x, 0, "1");
        for (int k = 0; k < 12; k++) {
            Due.picture(x, 0, k % 2 == 0 ? "a" : "b");
            if (k < 6) {
                Due.picture(x, 1, "c");
                Due.picture(x, 1, "d");
            }
        }
        x.begin(0);
        x.set(0, 3);
        for (int given = 0; given < 38; given++) {
            x.answer(given % 8, 0);
        }
        x.answer(8, 1);
        x.answer(9, 1);
        for (int number = 0; number < 10; number++) {
            Due.say(x, "a");
        }
        Due.feed(x, "a|b" + " ".repeat(77));
        return x;
    }

    /** Lesson 0 is begun and done. */
    private static AskedBack done() {
        AskedBack x = Due.begun("1", "a", "b");
        Due.law(x, 1, "a");
        x.answer(3, 1);
        x.answer(7, 1);
        x.answer(11, 1);
        Due.feed(x, "a^b");
        return x;
    }

    private static void refuse(List<Call> calls, String name, long due, ToLongFunction<AskedBack> made) {
        calls.add(new Call(name, due, made));
    }

    private static void refuseLaw(List<Call> calls, int lesson, int n) {
        refuse(calls, "law " + lesson + " " + n, 0, x -> x.law(lesson, n) ? 1 : 0);
    }

    private static void refusePicture(List<Call> calls, int lesson, int n) {
        refuse(calls, "picture " + lesson + " " + n, -2, x -> x.picture(lesson, n));
    }

    private static void refuseText(List<Call> calls, int lesson, int n) {
        refuseLaw(calls, lesson, n);
        refusePicture(calls, lesson, n);
    }

    private static void refuseSayAndJudge(List<Call> calls, int n) {
        refuse(calls, "say " + n, -2, x -> x.say(n));
        refuse(calls, "judge " + n, -2, x -> x.judge(n));
    }

    private static void refuseNeed(List<Call> calls, int a, int b) {
        refuse(calls, "needs " + a + " " + b, 0, x -> x.needs(a, b) ? 1 : 0);
    }

    private static void refuseBegin(List<Call> calls, int... lessons) {
        for (int lesson : lessons) {
            refuse(calls, "begin " + lesson, 0, x -> x.begin(lesson) ? 1 : 0);
        }
    }

    private static void refuseAnswer(List<Call> calls, int c, int value) {
        refuse(calls, "answer " + c + " " + value, -1, x -> x.answer(c, value));
    }

    /** What is refused whatever the object holds. */
    private static List<Call> refusedAlways() {
        List<Call> calls = new ArrayList<>();
        for (int outside : new int[] {-1, 6, 32, MIN, MAX}) {
            refuseText(calls, outside, 0);
            refuseText(calls, outside, 3);
            refuseNeed(calls, outside, 0);
            refuseNeed(calls, 0, outside);
            refuseNeed(calls, outside, outside);
            refuseBegin(calls, outside);
        }
        for (int n : new int[] {-1, 61, 80, 81, MIN, MAX}) {
            refuseText(calls, 4, n);
            refuseSayAndJudge(calls, n);
        }
        for (int lesson = 0; lesson < 6; lesson++) {
            refuseNeed(calls, lesson, lesson);
        }
        for (int c : new int[] {-1, 32, 63, MIN, MAX}) {
            refuseAnswer(calls, c, 0);
            refuseAnswer(calls, c, 1);
        }
        for (int value : new int[] {-1, 2, MIN, MAX}) {
            refuseAnswer(calls, 30, value);
        }
        int[][] settings = {{0, -1}, {0, 4}, {0, MIN}, {0, MAX}, {1, 0}, {1, 6}, {1, -1}, {1, MIN}, {1, MAX}, {2, 0}, {2, 9},
            {2, -1}, {2, MIN}, {2, MAX}, {-1, 1}, {3, 1}, {32, 1}, {33, 1}, {34, 1}, {MIN, 1}, {MAX, 1}};
        for (int[] set : settings) {
            refuse(calls, "set " + set[0] + " " + set[1], 0, x -> x.set(set[0], set[1]) ? 1 : 0);
        }
        return calls;
    }

    private static List<Call> refusedByNew() {
        List<Call> calls = refusedAlways();
        refuseText(calls, 0, 1);
        refuseSayAndJudge(calls, 0);
        refuseSayAndJudge(calls, 1);
        refuseBegin(calls, 0, 1, 2, 3, 4, 5);
        refuseAnswer(calls, 0, 0);
        refuseAnswer(calls, 31, 1);
        return calls;
    }

    private static List<Call> refusedInTheMidst() {
        List<Call> calls = refusedAlways();
        for (int n = 0; n <= 3; n++) {
            refuseText(calls, 0, n);
            refuseText(calls, 1, n);
        }
        for (int n : new int[] {21, 40, 60}) {
            refuseText(calls, 4, n);
            refuseSayAndJudge(calls, n);
        }
        refuseNeed(calls, 2, 3);
        refuseNeed(calls, 3, 2);
        refuseBegin(calls, 0, 2, 4, 5);
        return calls;
    }

    private static List<Call> refusedByFull() {
        List<Call> calls = refusedAlways();
        refuse(calls, "feed", -1, x -> x.feed(0x65656565, 0, -1, MIN, MAX));
        for (int n : new int[] {0, 2, 3, 60}) {
            refuseText(calls, 0, n);
            refusePicture(calls, 1, n);
            refuse(calls, "say " + n, -2, x -> x.say(n));
        }
        refuseAnswer(calls, 0, 0);
        refuseAnswer(calls, 10, 1);
        refuseBegin(calls, 1, 5);
        return calls;
    }

    private static List<Call> refusedByDone() {
        List<Call> calls = refusedAlways();
        refuseText(calls, 0, 0);
        refuseText(calls, 0, 3);
        refuseAnswer(calls, 0, 0);
        refuseAnswer(calls, 3, 1);
        refuseAnswer(calls, 12, 1);
        refuseBegin(calls, 0, 2);
        return calls;
    }

    /** Calls that only look: what they answer is looked at elsewhere. */
    private static List<Call> looks() {
        List<Call> calls = new ArrayList<>();
        for (int one : new int[] {-1, 0, 1, 2, 3, 7, 12, 31, 32, MIN, MAX}) {
            refuse(calls, "tells " + one, MIN, x -> x.tells(1, one, 5) + x.tells(one, -1, 0) + x.tells(1, 0, one));
            refuse(calls, "written " + one, MIN, x -> x.written(1, one, -1) + x.written(one, 0, 0) + x.written(1, -1, one));
            refuse(calls, "pictureOf " + one, MIN, x -> x.pictureOf(one, 2) + x.pictureOf(0, one));
            refuse(calls, "clash " + one, MIN, x -> x.clash(one));
            refuse(calls, "bridge " + one, MIN, x -> x.bridge(one));
            refuse(calls, "reveal " + one, MIN, x -> x.reveal(one));
            refuse(calls, "caseOf " + one, MIN, x -> x.caseOf(one, 0) + x.caseOf(3, one));
            refuse(calls, "count " + one, MIN, x -> x.count(one));
        }
        refuse(calls, "fault", MIN, AskedBack::fault);
        refuse(calls, "open", MIN, AskedBack::open);
        refuse(calls, "next", MIN, AskedBack::next);
        refuse(calls, "longest", MIN, AskedBack::longest);
        return calls;
    }
}
