import java.util.Random;

/** Random runs of 512 calls, the same ones each time, with the answers that Model has for them. */
public final class ModelTest {
    private static final int RUNS = 3000;
    private static final int CALLS = 512;

    private static final String[][] POOL = {
        {"The great Wall", "great wall, the", "Wall", "a b c a", "c b a", "abc", "", "The Great", "0000", "grea 12"},
        {"1998", "c1999", "2000", "1 9 9 9", "", "11998", "none", "9999", "10000", "19/97"},
        {"0306406152", "9780306406157", "080442957X", "0-8044-2957-x", "9780804429573", "0306406153", "0000000000000",
            "x080442957X", "080442957XX", "080442957X000", "0000000000", "9780000000002", "", "X", "030640615"},
        {"A & B", "a, B.", "B A", "", "ab", "A", "a b b", "--"},
        {"300 p.", "450", "0", "", "9999", "12345", "301", "xii, 300"},
    };

    private static final int[] EXTREMES = {0, -1, 41, 40, 201, 200, 256, Integer.MAX_VALUE, Integer.MIN_VALUE};

    private final Checks checks;
    private final Random random;
    private final int run;
    private final RecordMatch x = new RecordMatch();
    private final Model model = new Model();
    private int records;
    private int fields;
    private int calls;

    private ModelTest(Checks checks, int run) {
        this.checks = checks;
        this.run = run;
        random = new Random(run);
    }

    public static void main(String[] args) {
        Checks checks = new Checks();
        checks.sentence("all promises");
        for (int run = 0; run < RUNS && checks.allRight(); run++) {
            new ModelTest(checks, run).play();
        }
        checks.end("ModelTest");
    }

    private void play() {
        int most = random.nextInt(10) == 0 ? 45 : 2 + random.nextInt(8);
        while (calls < CALLS) {
            if (records < most && random.nextInt(4) == 0) {
                addRecord();
            } else if (random.nextInt(6) == 0) {
                addField();
            } else {
                ask();
            }
        }
    }

    private void due(String what, long got, long want) {
        calls++;
        checks.due("run " + run + ", call " + calls + ": " + what, got, want);
    }

    private void addRecord() {
        int rank = random.nextInt(20) == 0 ? extreme() : random.nextInt(4);
        records++;
        due("record(" + rank + ")", x.record(rank), model.record(rank));
    }

    private void addField() {
        int record = someRecord();
        int tag = random.nextInt(12) == 0 ? random.nextInt(14) - 2 : random.nextInt(5);
        int field = x.field(record, tag);
        due("field(" + record + ", " + tag + ")", field, model.field(record, tag));
        if (field > 0) {
            fields++;
            String[] pool = POOL[random.nextInt(8) == 0 || tag > 4 ? random.nextInt(5) : tag];
            String text = pool[random.nextInt(pool.length)];
            for (int i = 0; i < text.length() && calls < CALLS; i++) {
                addSign(field, text.charAt(i));
            }
        }
    }

    private void addSign(int field, int c) {
        x.sign(field, c);
        model.sign(field, c);
        calls++;
    }

    private void ask() {
        int a = someRecord();
        int b = someRecord();
        int i = random.nextInt(20) == 0 ? extreme() : random.nextInt(5) - 1;
        int field = random.nextInt(20) == 0 ? extreme() : 1 + random.nextInt(fields + 1);
        boolean on = random.nextBoolean();
        switch (random.nextInt(11)) {
            case 0 -> due("isbn(" + a + ", " + i + ")", x.isbn(a, i), model.isbn(a, i));
            case 1 -> changeWeight();
            case 2, 3 -> due("score(" + a + ", " + b + ", " + i + ")", Checks.score(x, a, b, i), model.score(a, b, i));
            case 4 -> due("candidates(" + a + ")", x.candidates(a), model.candidates(a));
            case 5 -> due("at(" + i + ")", x.at(i), model.at(i));
            case 6 -> due("merge(" + a + ", " + b + ")", x.merge(a, b), model.merge(a, b));
            case 7 -> due("winner(" + a + ", " + field + ")", x.winner(a, field), model.winner(a, field));
            case 8 -> due("undo(" + a + ")", x.undo(a), model.undo(a));
            case 9 -> due("locked(" + a + ", " + on + ")", x.locked(a, on), model.locked(a, on));
            default -> due("index(" + a + ", " + i + ")", Checks.index(x, a, i), model.index(a, i));
        }
        if (random.nextInt(20) == 0 && calls < CALLS) {
            addSign(field, random.nextBoolean() ? random.nextInt() : ' ' + random.nextInt(96));
        }
    }

    private void changeWeight() {
        int part = random.nextInt(10) == 0 ? extreme() : random.nextInt(6);
        long up = random.nextInt(10) == 0 ? random.nextLong() : random.nextInt(103) - 1;
        long down = random.nextInt(10) == 0 ? random.nextLong() : random.nextInt(12);
        up = random.nextInt(3) == 0 ? 0 : up;
        due("weight(" + part + ", " + up + ", " + down + ")", x.weight(part, up, down), model.weight(part, up, down));
    }

    private int someRecord() {
        return random.nextInt(30) == 0 ? extreme() : 1 + random.nextInt(records + 1);
    }

    private int extreme() {
        return EXTREMES[random.nextInt(EXTREMES.length)];
    }
}
