/** Promise 5: isbn, and what a right BOOK NUMBER and its FORM are. */
public final class BookNumbersTest {
    private static final Checks CHECKS = new Checks();

    public static void main(String[] args) {
        rightOnes();
        wrongOnes();
        crosses();
        forms();
        whichField();
        CHECKS.end("BookNumbersTest");
    }

    private static void dueRight(String text, int want) {
        RecordMatch x = new RecordMatch();
        x.record(0);
        Checks.put(x, 1, 2, text);
        CHECKS.due("isbn of '" + text + "'", x.isbn(1, 0), want);
    }

    private static void rightOnes() {
        dueRight("0306406152", 1);
        dueRight("0-306-40615-2", 1);
        dueRight("ISBN 0 306 40615 2 (bound)", 1);
        dueRight("9780306406157", 1);
        dueRight("978-0-306-40615-7.", 1);
        dueRight("080442957X", 1);
        dueRight("080442957x", 1);
        dueRight("0000000000", 1);
        dueRight("0000000000000", 1);
        dueRight("1234567890128", 1);
        dueRight("\u00b20306406152\u00b3", 1);
    }

    private static void wrongOnes() {
        dueRight("", 0);
        dueRight("no digits", 0);
        dueRight("X", 0);
        dueRight("0306406153", 0);
        dueRight("0306406512", 0);
        dueRight("9780306406158", 0);
        dueRight("9870306406157", 0);
        dueRight("030640615", 0);
        dueRight("03064061520", 0);
        dueRight("978030640615", 0);
        dueRight("97803064061570", 0);
        dueRight("00000000000", 0);
        dueRight("000000000000", 0);
        dueRight("00000000000000", 0);
        dueRight("000000000", 0);
        dueRight("0".repeat(60), 0);
    }

    private static void crosses() {
        dueRight("0-8044-2957-X", 1);
        dueRight("080442957 (x)", 1);
        dueRight("X080442957X", 1);
        dueRight("08X0442957x", 1);
        dueRight("08044295X7", 0);
        dueRight("0306406152X", 1);
        dueRight("030640615X2", 0);
        dueRight("X9780306406157", 1);
        dueRight("978030640X6157", 0);
        dueRight("9780306406157X", 1);
        dueRight("030640615X", 0);
        // 13 signs with an X are not 13 digits: 10 at an even place would make this sum 30.
        dueRight("000000000X000", 0);
        dueRight("080442957XX", 1);
    }

    private static void forms() {
        dueSameForm("0306406152", "9780306406157", true);
        dueSameForm("080442957X", "9780804429573", true);
        dueSameForm("080442957x", "0-8044-2957-X", true);
        dueSameForm("9780306406157", "978 0 306 40615 7", true);
        dueSameForm("0000000000", "9780000000002", true);
        dueSameForm("0000000051", "9780000000057", true);
        dueSameForm("0306406152", "080442957X", false);
        dueSameForm("0000000000000", "9780000000002", false);
        dueSameForm("9790306406156", "9780306406157", false);
        // Here the digit that makes thirteen right is 0, as the sum is a multiple of 10 without it.
        dueSameForm("0000000043", "9780000000040", true);
        dueSameForm("0306406153", "0306406153", false);
        dueSameForm("", "", false);
    }

    private static void dueSameForm(String one, String other, boolean same) {
        RecordMatch x = new RecordMatch();
        x.record(0);
        x.record(0);
        Checks.put(x, 1, 2, one);
        Checks.put(x, 2, 2, other);
        CHECKS.dueScore("'" + one + "' and '" + other + "'", x, 1, 2, same ? 1 : 0, 1);
        CHECKS.due("'" + one + "' by key", x.candidates(1), same ? 1 : 0);
    }

    private static void whichField() {
        RecordMatch x = new RecordMatch();
        x.record(0);
        x.record(1);
        Checks.put(x, 1, 0, "0306406152");
        Checks.put(x, 1, 2, "0306406152");
        Checks.put(x, 2, 2, "1");
        Checks.put(x, 1, 3, "0306406152");
        Checks.put(x, 1, 2, "2");
        CHECKS.due("the first", x.isbn(1, 0), 1);
        CHECKS.due("the second", x.isbn(1, 1), 0);
        CHECKS.due("no third", x.isbn(1, 2), -1);
        CHECKS.due("-1st", x.isbn(1, -1), -1);
        CHECKS.due("the greatest int", x.isbn(1, Integer.MAX_VALUE), -1);
        CHECKS.due("the least int", x.isbn(1, Integer.MIN_VALUE), -1);
        CHECKS.due("no such record", x.isbn(3, 0), -1);
        CHECKS.due("record 0", x.isbn(0, 0), -1);
        x.merge(1, 2);
        CHECKS.due("one in another has none", x.isbn(1, 0), -1);
        CHECKS.due("what it got comes in the order of numbers", x.isbn(2, 0), 1);
        CHECKS.due("its own comes between", x.isbn(2, 1), 0);
        CHECKS.due("then the last", x.isbn(2, 2), 0);
        CHECKS.due("no fourth", x.isbn(2, 3), -1);
        x.undo(2);
        CHECKS.due("by itself again", x.isbn(1, 0), 1);
        CHECKS.due("the other again", x.isbn(2, 0), 0);
    }
}
