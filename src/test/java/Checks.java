/** What the tests share: counting wrong answers, and writing a whole text into a field. */
final class Checks {
    /** What a call that threw answers here; no call of the class answers it otherwise. */
    static final long THROWN = Long.MIN_VALUE;

    private int wrong;
    private int asked;

    void due(String what, long got, long want) {
        asked++;
        if (got != want) {
            wrong++;
            System.out.println(what + " answered " + told(got) + ", due is " + told(want));
        }
    }

    void end(String name) {
        System.out.println(name + ": " + asked + " answers, " + wrong + " wrong");
        if (wrong != 0 || asked == 0) {
            System.exit(1);
        }
    }

    boolean allRight() {
        return wrong == 0;
    }

    static int put(RecordMatch x, int record, int tag, String text) {
        int field = x.field(record, tag);
        type(x, field, text);
        return field;
    }

    static void type(RecordMatch x, int field, String text) {
        for (int i = 0; i < text.length(); i++) {
            x.sign(field, text.charAt(i));
        }
    }

    static long score(RecordMatch x, int a, int b, int side) {
        try {
            return x.score(a, b, side);
        } catch (ArithmeticException e) {
            return THROWN;
        }
    }

    static long index(RecordMatch x, int record, int i) {
        try {
            return x.index(record, i);
        } catch (ArrayIndexOutOfBoundsException e) {
            return THROWN;
        }
    }

    /** A likeness is asked by both sides. */
    void dueScore(String what, RecordMatch x, int a, int b, long... want) {
        due(what + " above", score(x, a, b, 0), want[0]);
        due(what + " below", score(x, a, b, 1), want[1]);
    }

    void dueCandidates(String what, RecordMatch x, int record, int... want) {
        due(what + " count", x.candidates(record), want.length);
        dueFound(what, x, want);
    }

    void dueFound(String what, RecordMatch x, int... want) {
        for (int i = 0; i < want.length; i++) {
            due(what + " at(" + i + ")", x.at(i), want[i]);
        }
        due(what + " behind the last", x.at(want.length), RecordMatch.NONE);
        due(what + " before the first", x.at(-1), RecordMatch.NONE);
    }

    private static String told(long answer) {
        return answer == THROWN ? "with an exception" : Long.toString(answer);
    }
}
