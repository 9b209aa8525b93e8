import java.util.function.IntConsumer;

/** Full objects and arguments at every edge: only the two exceptions of the face may come, and none by the machine. */
public final class NeverThrowsTest {
    private static final Checks CHECKS = new Checks();

    /** What is promised ends with an object's 512th call. */
    private static final int MOST_CALLS = 512;

    private static final int[] EDGES = {Integer.MIN_VALUE, -256, -1, 0, 1, 2, 3, 4, 5, 9, 10, 39, 40, 41, 59, 60, 61,
        199, 200, 201, 255, 256, Integer.MAX_VALUE};

    private static final String[] FILLINGS = {"a ", "9", "X", "abcde fghi ", "0306406152", "9780306406157 ", "\u00ff"};

    private final boolean merged;
    private final String filling;
    private RecordMatch x;
    private int calls = MOST_CALLS;

    private NeverThrowsTest(boolean merged, String filling) {
        this.merged = merged;
        this.filling = filling;
    }

    public static void main(String[] args) {
        CHECKS.sentence("7, 14: no other exception than these two, and none by the machine");
        for (String filling : FILLINGS) {
            new NeverThrowsTest(false, filling).askAll();
            new NeverThrowsTest(true, filling).askAll();
        }
        CHECKS.end("NeverThrowsTest");
    }

    private void askAll() {
        for (int a : EDGES) {
            for (int b : EDGES) {
                for (int method = 0; method < 13; method++) {
                    ask(method, a, b);
                }
            }
        }
    }

    /** What is asked for may throw, but by a throw statement, and only where the document says so. */
    private void ask(int method, int a, int b) {
        if (calls >= MOST_CALLS) {
            fill();
        }
        calls++;
        String what = "method " + method + " with " + a + ", " + b;
        try {
            call(method, a, b);
            CHECKS.due(what, 0, 0);
        } catch (ArithmeticException e) {
            CHECKS.due(what + ": " + e, method == 5 && !"/ by zero".equals(e.getMessage()) ? 1 : 0, 1);
        } catch (ArrayIndexOutOfBoundsException e) {
            CHECKS.due(what + ": " + e, method == 12 && !String.valueOf(e.getMessage()).startsWith("Index ") ? 1 : 0, 1);
        } catch (RuntimeException e) {
            CHECKS.due(what + ": " + e, 0, 1);
        }
    }

    private void call(int method, int a, int b) {
        switch (method) {
            case 0 -> x.record(a);
            case 1 -> x.field(a, b);
            case 2 -> x.sign(a, b);
            case 3 -> x.isbn(a, b);
            case 4 -> x.weight(a, b, a);
            case 5 -> x.score(a, b, a);
            case 6 -> x.candidates(a);
            case 7 -> x.at(b);
            case 8 -> x.winner(a, b);
            case 9 -> x.locked(a, (b & 1) == 0);
            case 10 -> x.merge(a, b);
            case 11 -> x.undo(b);
            default -> x.index(a, b);
        }
    }

    /** As many records, fields and signs as there is room for, with half of the calls left to ask. */
    private void fill() {
        x = new RecordMatch();
        calls = 0;
        times(40, record -> x.record(record % 7 * 613_566_756));
        times(merged ? 160 : 40, field -> x.field(1 + field % 40, field % 5));
        for (int field = 1; field <= 2; field++) {
            int full = field;
            times(61, sign -> x.sign(full, filling.charAt(sign % filling.length())));
        }
        times(merged ? 39 : 0, record -> x.merge(record + 1, record + 2));
    }

    private void times(int count, IntConsumer made) {
        for (int i = 0; i < count; i++) {
            made.accept(i);
            calls++;
        }
    }
}
