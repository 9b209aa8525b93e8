/** A full object, far beyond its 512 calls: answers are free there, but only the two exceptions of the face may come. */
public final class NeverThrowsTest {
    private static final Checks CHECKS = new Checks();

    private static final int[] EDGES = {Integer.MIN_VALUE, -256, -1, 0, 1, 2, 3, 4, 5, 9, 10, 39, 40, 41, 59, 60, 61,
        199, 200, 201, 255, 256, Integer.MAX_VALUE};

    private static final String[] FILLINGS = {"a ", "9", "X", "abcde fghi ", "0306406152", "9780306406157 ", "\u00ff"};

    public static void main(String[] args) {
        for (int filling = 0; filling < FILLINGS.length; filling++) {
            RecordMatch x = full(filling);
            askAll(x);
            for (int record = 1; record < 40; record++) {
                x.merge(record, record + 1);
            }
            askAll(x);
        }
        CHECKS.end("NeverThrowsTest");
    }

    private static RecordMatch full(int filling) {
        RecordMatch x = new RecordMatch();
        for (int record = 0; record <= 40; record++) {
            x.record(record % 7 * 613_566_756);
        }
        for (int field = 1; field <= 201; field++) {
            x.field(1 + field % 40, field % 5);
            String text = FILLINGS[field % 3 == 0 ? field % FILLINGS.length : filling];
            for (int i = 0; i <= 60; i++) {
                x.sign(field, text.charAt(i % text.length()));
            }
        }
        return x;
    }

    private static void askAll(RecordMatch x) {
        for (int a : EDGES) {
            for (int b : EDGES) {
                x.field(a, b);
                x.sign(a, b);
                x.isbn(a, b);
                x.weight(a, b, a);
                x.weight(b, a, b);
                x.candidates(a);
                x.at(a);
                x.winner(a, b);
                x.locked(a, (b & 1) == 0);
                dueThrownByFace(x, a, b);
            }
        }
        for (int a : EDGES) {
            for (int b : EDGES) {
                x.merge(a, b);
                x.undo(b);
            }
        }
    }

    /** What the machine throws comes from further inside, or with a text of its own. */
    private static void dueThrownByFace(RecordMatch x, int a, int b) {
        try {
            x.score(a, b, a);
        } catch (ArithmeticException e) {
            CHECKS.due("score(" + a + ", " + b + ") throws: " + e, isByFace(e, "score") ? 1 : 0, 1);
        }
        try {
            x.index(a, b);
        } catch (ArrayIndexOutOfBoundsException e) {
            CHECKS.due("index(" + a + ", " + b + ") throws: " + e, isByFace(e, "index") ? 1 : 0, 1);
        }
    }

    private static boolean isByFace(RuntimeException e, String method) {
        StackTraceElement[] trace = e.getStackTrace();
        String text = String.valueOf(e.getMessage());
        return trace.length > 0 && trace[0].getMethodName().equals(method) && !text.startsWith("Index ")
                && !text.equals("/ by zero");
    }
}
