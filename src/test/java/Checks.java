/** What the tests share: counting wrong answers by the document's sentences, and making records with texts. */
final class Checks {
    /** What a call that threw answers here; no call of the class answers it otherwise. */
    static final long THROWN = Long.MIN_VALUE;

    private String sentence = "";
    private int sentences;
    private int askedBefore;
    private int wrong;
    private int asked;

    /** What is asked from here on tests this sentence of the document, and each sentence must be asked for. */
    void sentence(String words) {
        closeSentence();
        sentence = words;
        sentences++;
        askedBefore = asked;
    }

    void due(String what, long got, long want) {
        asked++;
        if (got != want) {
            wrong++;
            System.out.println("[" + sentence + "] " + what + " answered " + told(got) + ", due is " + told(want));
        }
    }

    void end(String name) {
        closeSentence();
        System.out.println(name + ": " + sentences + " sentences, " + asked + " answers, " + wrong + " wrong");
        if (wrong != 0 || asked == 0) {
            System.exit(1);
        }
    }

    boolean allRight() {
        return wrong == 0;
    }

    /** A new object with a record for each rank. */
    static RecordMatch ranked(int... ranks) {
        RecordMatch x = new RecordMatch();
        for (int rank : ranks) {
            x.record(rank);
        }
        return x;
    }

    /** A new object with so many records, all of rank 0. */
    static RecordMatch records(int count) {
        return ranked(new int[count]);
    }

    /** Numbers that no record or field has, if there are 1 .. count of them. */
    static int[] notThere(int count) {
        return new int[] {0, -1, count + 1, 41, 201, 257, 65537, -count, Integer.MAX_VALUE, Integer.MIN_VALUE,
            Integer.MIN_VALUE + 1};
    }

    static int put(RecordMatch x, int record, int tag, String text) {
        int field = x.field(record, tag);
        type(x, field, text);
        return field;
    }

    static void type(RecordMatch x, int field, String text) {
        for (int i = 0; i < text.length(); i++) {
            x.sign(field, text.charAt(i));
        }
    }

    static long score(RecordMatch x, int a, int b, int side) {
        try {
            return x.score(a, b, side);
        } catch (ArithmeticException e) {
            return THROWN;
        }
    }

    static long index(RecordMatch x, int record, int i) {
        try {
            return x.index(record, i);
        } catch (ArrayIndexOutOfBoundsException e) {
            return THROWN;
        }
    }

    /** A likeness is asked by both sides. */
    void dueScore(String what, RecordMatch x, int a, int b, long above, long below) {
        due(what + ", above", score(x, a, b, 0), above);
        due(what + ", below", score(x, a, b, 1), below);
    }

    /** Two records with a field of one tag each, compared both ways round. */
    void dueLike(int tag, String one, String other, long above, long below) {
        RecordMatch x = records(2);
        put(x, 1, tag, one);
        put(x, 2, tag, other);
        dueScore("'" + one + "' and '" + other + "'", x, 1, 2, above, below);
        dueScore("'" + other + "' and '" + one + "'", x, 2, 1, above, below);
    }

    void dueCandidates(String what, RecordMatch x, int record, int... want) {
        due(what + ", how many", x.candidates(record), want.length);
        dueFound(what, x, want);
    }

    void dueFound(String what, RecordMatch x, int... want) {
        for (int i = 0; i < want.length; i++) {
            due(what + ", at(" + i + ")", x.at(i), want[i]);
        }
        due(what + ", behind the last", x.at(want.length), RecordMatch.NONE);
    }

    /** A record stands by itself if it can get a field; in another one it can't. */
    void dueStanding(String what, RecordMatch x, int record, boolean want) {
        due(what + ", " + record + " by itself", x.field(record, 9) > 0 ? 1 : 0, want ? 1 : 0);
    }

    private void closeSentence() {
        if (sentences > 0 && asked == askedBefore) {
            wrong++;
            System.out.println("[" + sentence + "] is not asked for");
        }
    }

    private static String told(long answer) {
        return answer == THROWN ? "with an exception" : Long.toString(answer);
    }
}
