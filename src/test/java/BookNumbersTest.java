/** Promise 5, and the terms BOOK NUMBER and FORM, sentence by sentence. */
public final class BookNumbersTest {
    private static final Checks CHECKS = new Checks();
    private static final String CHECK_SIGNS = "0123456789X";

    public static void main(String[] args) {
        allElseIsLeftOut();
        crossBehindNine();
        crossElsewhere();
        oneCross();
        howManySigns();
        tenByPlaces();
        crossIsTen();
        thirteenByPlaces();
        thirteenDigits();
        formOfTen();
        formOfThirteen();
        rightOrNot();
        numberedFromZero();
        noneSuch();
        CHECKS.end("BookNumbersTest");
    }

    private static void dueRight(String text, boolean want) {
        RecordMatch x = Checks.records(1);
        Checks.put(x, 1, 2, text);
        CHECKS.due("isbn of '" + text + "'", x.isbn(1, 0), want ? 1 : 0);
    }

    private static String with(String text, int at, String more) {
        return text.substring(0, at) + more + text.substring(at);
    }

    private static String changed(String text, int at, int digit) {
        return text.substring(0, at) + digit + text.substring(at + 1);
    }

    private static void allElseIsLeftOut() {
        CHECKS.sentence("A BOOK NUMBER is right if its digits, all else left out, are");
        for (int c = 0; c <= 255; c++) {
            boolean digit = c >= '0' && c <= '9';
            dueRight("030640" + (char) c + "6152", !digit);
            dueRight("978030" + (char) c + "6406157", !digit);
        }
        dueRight("ISBN 0-306-40615-2 (bound)", true);
        dueRight("-".repeat(50) + "0306406152", true);
        dueRight("9780306406157" + ".".repeat(47), true);
    }

    private static void crossBehindNine() {
        CHECKS.sentence("and an X or x behind nine of them");
        dueRight("080442957X", true);
        dueRight("080442957x", true);
        dueRight("0-8044-2957-X", true);
        dueRight("080442957 (x).", true);
        dueRight("080442957Y", false);
        dueRight("080442957", false);
        dueRight("030640615X2", false);
        dueRight("030640615x2", false);
        dueRight("978030640X6157", false);
    }

    private static void crossElsewhere() {
        CHECKS.sentence("An X elsewhere is left out, as other signs are");
        for (int at = 0; at <= 10; at++) {
            dueRight(with("0306406152", at, "X"), at != 9);
            dueRight(with("0306406152", at, "x"), at != 9);
        }
        for (int at = 0; at < 9; at++) {
            dueRight(with("080442957X", at, "x"), true);
            dueRight(with("08044295", at, "X") + "7", false);
        }
        for (int at = 0; at <= 13; at++) {
            dueRight(with("9780306406157", at, "X"), at != 9);
        }
        dueRight("XXX0306406152xxx", true);
        dueRight("X", false);
    }

    /** The document says "an X": one that comes behind the ten signs stands elsewhere. */
    private static void oneCross() {
        CHECKS.sentence("an X, and no second one");
        dueRight("080442957XX", true);
        dueRight("080442957X x", true);
        dueRight("080442957X1", false);
    }

    private static void howManySigns() {
        CHECKS.sentence("are: ten signs; or thirteen digits");
        for (int count = 0; count <= 60; count++) {
            dueRight("0".repeat(count), count == 10 || count == 13);
        }
        dueRight("03064061520", false);
        dueRight("978030640615", false);
        dueRight("97803064061570", false);
    }

    /** One digit alone, so that its place is all that tells which sign makes ten right. */
    private static void tenByPlaces() {
        CHECKS.sentence("the sum of each times its place from the right (10 .. 1) a multiple of 11");
        for (int place = 10; place >= 2; place--) {
            for (int digit = 1; digit <= 9; digit++) {
                String nine = changed("000000000", 10 - place, digit);
                for (int last = 0; last <= 9; last++) {
                    dueRight(nine + last, (place * digit + last) % 11 == 0);
                }
            }
        }
        for (int at = 0; at < 10; at++) {
            for (int digit = 0; digit <= 9; digit++) {
                dueRight(changed("0306406152", at, digit), "0306406152".charAt(at) - '0' == digit);
            }
        }
        dueRight("9999999999", true);
    }

    private static void crossIsTen() {
        CHECKS.sentence("X being 10");
        for (int place = 10; place >= 2; place--) {
            for (int digit = 0; digit <= 9; digit++) {
                String nine = changed("000000000", 10 - place, digit);
                dueRight(nine + "X", (place * digit + 10) % 11 == 0);
                dueRight(nine + "x", (place * digit + 10) % 11 == 0);
            }
        }
    }

    private static void thirteenByPlaces() {
        CHECKS.sentence("the sum of those at odd places (from 1 on) and three times the others a multiple of 10");
        for (int place = 1; place <= 12; place++) {
            for (int digit = 1; digit <= 9; digit++) {
                String twelve = changed("000000000000", place - 1, digit);
                for (int last = 0; last <= 9; last++) {
                    dueRight(twelve + last, (digit * (place % 2 == 1 ? 1 : 3) + last) % 10 == 0);
                }
            }
        }
        for (int at = 0; at < 13; at++) {
            for (int digit = 0; digit <= 9; digit++) {
                dueRight(changed("9780306406157", at, digit), "9780306406157".charAt(at) - '0' == digit);
            }
        }
        dueRight("9999999999994", true);
    }

    private static void thirteenDigits() {
        CHECKS.sentence("thirteen digits");
        // As 10 at an even place the X would make this sum 30.
        dueRight("000000000X000", false);
        dueRight("9780306406157X", true);
        dueRight("978030640615X", false);
        dueRight("978080442957X", false);
    }

    private static void dueSameForm(String one, String other, boolean same) {
        RecordMatch x = Checks.records(2);
        Checks.put(x, 1, 2, one);
        Checks.put(x, 2, 2, other);
        CHECKS.dueScore("'" + one + "' and '" + other + "'", x, 1, 2, same ? 1 : 0, 1);
        CHECKS.due("'" + one + "' and '" + other + "' by key", x.candidates(1), same ? 1 : 0);
    }

    /** Of the ten right thirteens' candidates only the one with the due last digit is right at all. */
    private static void formOfTen() {
        CHECKS.sentence("Its FORM is, of ten signs, 978, the first nine digits, and the digit that makes thirteen right");
        for (int at = 0; at < 9; at++) {
            for (int digit = 0; digit <= 9; digit++) {
                String nine = changed("000000000", at, digit);
                int last = (11 - (10 - at) * digit % 11) % 11;
                // 9 + 3 * 7 + 8 is 38, and the first of the nine stands at the fourth place.
                int thirteenth = (1000 - 38 - digit * (at % 2 == 0 ? 3 : 1)) % 10;
                dueSameForm(nine + CHECK_SIGNS.charAt(last), "978" + nine + thirteenth, true);
            }
        }
        dueSameForm("0306406152", "9780306406157", true);
        dueSameForm("080442957X", "9780804429573", true);
        dueSameForm("080442957x", "0-8044-2957-X", true);
        dueSameForm("0306406152", "9790306406156", false);
        dueSameForm("0306406152", "080442957X", false);
        dueSameForm("0000000000", "0000000000000", false);
    }

    private static void formOfThirteen() {
        CHECKS.sentence("else the thirteen");
        dueSameForm("9790306406156", "979 0306406156", true);
        dueSameForm("9780306406157", "978-0-306-40615-7", true);
        dueSameForm("0000000000000", "0-000-000000000", true);
        dueSameForm("9999999999994", "9999999999994", true);
        for (int at = 0; at < 12; at++) {
            int last = at % 2 == 0 ? 9 : 7;
            dueSameForm(changed("0000000000000", at, 1).substring(0, 12) + last, "0000000000000", false);
        }
        dueSameForm("9790306406156", "9780306406157", false);
        dueSameForm("1000000000009", "2000000000008", false);
        // Right as well, and the same but for the first three digits.
        dueSameForm("8000306406157", "9780306406157", false);
        dueSameForm("0080306406157", "0306406152", false);
    }

    private static void rightOrNot() {
        CHECKS.sentence("5: 1 if it is right, else 0");
        dueRight("0306406152", true);
        dueRight("0306406153", false);
        dueRight("", false);
        dueRight("no number", false);
        RecordMatch x = Checks.records(1);
        int field = Checks.put(x, 1, 2, "0306406152");
        CHECKS.due("right", x.isbn(1, 0), 1);
        x.sign(field, '0');
        CHECKS.due("no more", x.isbn(1, 0), 0);
        Checks.type(x, field, "06");
        CHECKS.due("0306406152006", x.isbn(1, 0), 0);
    }

    private static void numberedFromZero() {
        CHECKS.sentence("5: Of the record's fields with tag 2, the i-th, from 0 on");
        RecordMatch x = Checks.records(2);
        for (int tag = 0; tag <= 9; tag++) {
            if (tag != 2) {
                Checks.put(x, 1, tag, "0306406152");
            }
        }
        CHECKS.due("other tags are not asked", x.isbn(1, 0), -1);
        Checks.put(x, 1, 2, "0306406152");
        Checks.put(x, 2, 2, "1");
        Checks.put(x, 1, 0, "2");
        Checks.put(x, 1, 2, "2");
        Checks.put(x, 1, 2, "9780306406157");
        CHECKS.due("the first", x.isbn(1, 0), 1);
        CHECKS.due("the second", x.isbn(1, 1), 0);
        CHECKS.due("the third", x.isbn(1, 2), 1);
        CHECKS.due("the other record's", x.isbn(2, 0), 0);
    }

    private static void noneSuch() {
        CHECKS.sentence("5: NONE if there is none such");
        RecordMatch x = Checks.ranked(1, 0);
        for (int field = 0; field < 3; field++) {
            Checks.put(x, 1, 2, "0306406152");
        }
        Checks.put(x, 2, 2, "0306406152");
        for (int i : new int[] {3, 4, -1, -2, -3, 200, 256, Integer.MAX_VALUE, Integer.MIN_VALUE}) {
            CHECKS.due("isbn(1, " + i + ")", x.isbn(1, i), -1);
        }
        for (int record : Checks.notThere(2)) {
            CHECKS.due("isbn(" + record + ", 0)", x.isbn(record, 0), -1);
        }
        x.merge(1, 2);
        CHECKS.due("of one in another", x.isbn(2, 0), -1);
        CHECKS.due("of one with another", x.isbn(1, 3), 1);
        CHECKS.due("behind that", x.isbn(1, 4), -1);
        x.undo(1);
        CHECKS.due("by itself again", x.isbn(2, 0), 1);
        CHECKS.due("no more of the other", x.isbn(1, 3), -1);
    }
}
