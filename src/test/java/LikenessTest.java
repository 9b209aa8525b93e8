/** Promises 6 and 7: weight and score. */
public final class LikenessTest {
    private static final Checks CHECKS = new Checks();

    public static void main(String[] args) {
        titles();
        years();
        publishers();
        pages();
        sums();
        weights();
        wrongWeights();
        firstFieldCounts();
        wrongRecords();
        noCommonPart();
        largeTerms();
        CHECKS.end("LikenessTest");
    }

    private static RecordMatch two() {
        RecordMatch x = new RecordMatch();
        x.record(1);
        x.record(0);
        return x;
    }

    private static void dueLike(int tag, String one, String other, long above, long below) {
        RecordMatch x = two();
        Checks.put(x, 1, tag, one);
        Checks.put(x, 2, tag, other);
        CHECKS.dueScore("'" + one + "' and '" + other + "'", x, 1, 2, above, below);
        CHECKS.dueScore("'" + other + "' and '" + one + "'", x, 2, 1, above, below);
    }

    private static void titles() {
        dueLike(0, "The great Wall", "great wall, the", 1, 1);
        dueLike(0, "a b c", "b c d", 1, 2);
        dueLike(0, "a a b", "a", 1, 2);
        dueLike(0, "a a b", "b b a a b", 1, 1);
        dueLike(0, "a1 b", "a 1 b", 1, 4);
        dueLike(0, "ab", "abc", 0, 1);
        dueLike(0, "abc", "xbc", 0, 1);
        dueLike(0, "", "", 0, 1);
        dueLike(0, "?!", "--", 0, 1);
        dueLike(0, "", "a", 0, 1);
        dueLike(0, "AZ az", "az", 1, 1);
        dueLike(0, "@[`{/:", "a", 0, 1);
        dueLike(0, "a@z[0`9{A/Z:", "a z 0 9", 1, 1);
        dueLike(0, "a b c d e f g h i j k l m n o p q r s t u v w x y z 0 1 2 3",
                "3", 1, 30);
        dueLike(0, "abcdefghij".repeat(6), "abcdefghij".repeat(6), 1, 1);
        dueLike(0, "\u00c4b", "b", 1, 1);
    }

    private static void years() {
        dueLike(1, "1998", "1998", 1, 1);
        dueLike(1, "1998", "c1999", 1, 2);
        dueLike(1, "1998", "2000", 0, 1);
        dueLike(1, "1 9.9-8", "1998", 1, 1);
        dueLike(1, "51998", "1998", 1, 1);
        dueLike(1, "1998, 2004", "2005", 1, 2);
        dueLike(1, "", "0", 1, 1);
        dueLike(1, "none", "1", 1, 2);
        dueLike(1, "9999", "0", 0, 1);
        dueLike(1, "10000", "0", 1, 1);
        dueLike(1, "0007", "7", 1, 1);
    }

    private static void publishers() {
        dueLike(3, "A & B", "a, B.", 1, 1);
        dueLike(3, "A & B", "B & A", 0, 1);
        dueLike(3, "A", "A A", 0, 1);
        dueLike(3, "A", "A B", 0, 1);
        dueLike(3, "AB", "A B", 0, 1);
        dueLike(3, "", "", 1, 1);
        dueLike(3, "&", "", 1, 1);
        dueLike(3, "", "A", 0, 1);
    }

    private static void pages() {
        dueLike(4, "300 p.", "450", 2, 3);
        dueLike(4, "300", "300", 1, 1);
        dueLike(4, "", "none", 1, 1);
        dueLike(4, "0", "300", 0, 1);
        dueLike(4, "1", "9999", 1, 9999);
        dueLike(4, "10300", "450", 2, 3);
    }

    private static void sums() {
        RecordMatch x = two();
        Checks.put(x, 1, 0, "a b c");
        Checks.put(x, 2, 0, "a b d");
        CHECKS.dueScore("title", x, 1, 2, 1, 2);
        Checks.put(x, 1, 4, "1");
        Checks.put(x, 2, 4, "3");
        CHECKS.dueScore("title and pages", x, 1, 2, 5, 12);
        Checks.put(x, 1, 1, "7");
        CHECKS.dueScore("a part of one alone", x, 1, 2, 5, 12);
        Checks.put(x, 2, 1, "8");
        CHECKS.dueScore("and year", x, 1, 2, 4, 9);
        Checks.put(x, 1, 3, "A");
        Checks.put(x, 2, 3, "a");
        CHECKS.dueScore("and publisher", x, 1, 2, 7, 12);
        Checks.put(x, 1, 2, "0306406152");
        Checks.put(x, 2, 2, "9780306406157");
        CHECKS.dueScore("and book number", x, 1, 2, 2, 3);
        Checks.put(x, 1, 5, "1");
        Checks.put(x, 2, 5, "2");
        CHECKS.dueScore("other tags are no parts", x, 1, 2, 2, 3);
        CHECKS.due("side -1 is below", x.score(1, 2, -1), 3);
        CHECKS.due("the greatest side is below", x.score(1, 2, Integer.MAX_VALUE), 3);
        CHECKS.due("the least side is below", x.score(1, 2, Integer.MIN_VALUE), 3);
        CHECKS.dueScore("with itself", x, 1, 1, 1, 1);
    }

    private static void weights() {
        RecordMatch x = two();
        for (int part = 0; part < 5; part++) {
            x.field(1, part);
            x.field(2, part);
        }
        CHECKS.dueScore("empty texts: 0, 1, 0, 1, 1", x, 1, 2, 3, 5);
        CHECKS.due("title 100", x.weight(0, 100, 1), 1);
        CHECKS.dueScore("3 of 104", x, 1, 2, 3, 104);
        CHECKS.due("year 1/10", x.weight(1, 1, 10), 1);
        CHECKS.dueScore("2.1 of 103.1", x, 1, 2, 21, 1031);
        CHECKS.due("book number 0", x.weight(2, 0, 7), 1);
        CHECKS.dueScore("2.1 of 102.1", x, 1, 2, 21, 1021);
        CHECKS.due("publisher 3/7", x.weight(3, 3, 7), 1);
        CHECKS.dueScore("1.1 + 3/7 of 101.1 + 3/7", x, 1, 2, 107, 7107);
        CHECKS.due("pages 5/9", x.weight(4, 5, 9), 1);
        CHECKS.dueScore("1/10 + 3/7 + 5/9", x, 1, 2, 683, 63683);
        CHECKS.due("title 0", x.weight(0, 0, 1), 1);
        CHECKS.dueScore("those of weight 0 do not count", x, 1, 2, 1, 1);
        CHECKS.due("title 2/8", x.weight(0, 2, 8), 1);
        CHECKS.dueScore("683/630 of 683/630 + 1/4", x, 1, 2, 1366, 1681);
        for (int part = 0; part < 5; part++) {
            CHECKS.due("all 0", x.weight(part, 0, 1), 1);
        }
        CHECKS.dueScore("all are 0", x, 1, 2, Checks.THROWN, Checks.THROWN);
    }

    private static void wrongWeights() {
        RecordMatch x = two();
        for (int part = 0; part < 2; part++) {
            x.field(1, part);
            x.field(2, part);
        }
        long[][] wrong = {{-1, 1, 1}, {5, 1, 1}, {Integer.MAX_VALUE, 1, 1}, {Integer.MIN_VALUE, 1, 1}, {0, -1, 1},
            {0, 101, 1}, {0, 3, 0}, {0, 3, -1}, {0, 3, 11}, {1, Long.MAX_VALUE, 1}, {1, Long.MIN_VALUE, 1},
            {1, 3, Long.MAX_VALUE}, {1, 3, Long.MIN_VALUE}, {0, 1L << 32, 1}, {0, 3, (1L << 32) + 1}, {0, 0, 0}};
        for (long[] row : wrong) {
            CHECKS.due("weight(" + row[0] + ", " + row[1] + ", " + row[2] + ")",
                    x.weight((int) row[0], row[1], row[2]), 0);
            CHECKS.dueScore("the weight stays", x, 1, 2, 1, 2);
        }
        x.weight(0, 3, 1);
        x.weight(0, 101, 1);
        CHECKS.dueScore("the one before stays", x, 1, 2, 1, 4);
    }

    private static void firstFieldCounts() {
        RecordMatch x = two();
        Checks.put(x, 2, 1, "5");
        Checks.put(x, 1, 1, "1");
        Checks.put(x, 1, 1, "5");
        Checks.put(x, 2, 1, "1");
        CHECKS.dueScore("1 and 5", x, 1, 2, 0, 1);
        x.record(0);
        Checks.put(x, 3, 1, "4");
        CHECKS.dueScore("1 and 4", x, 1, 3, 0, 1);
        x.merge(1, 2);
        CHECKS.dueScore("5, which it got, and 4", x, 1, 3, 1, 2);
        CHECKS.dueScore("one in another", x, 2, 3, -1, -1);
        CHECKS.dueScore("one in another, behind", x, 3, 2, -1, -1);
        x.undo(1);
        CHECKS.dueScore("by itself again", x, 2, 3, 1, 2);
        CHECKS.dueScore("1 and 4 again", x, 1, 3, 0, 1);
    }

    private static void wrongRecords() {
        RecordMatch x = two();
        x.field(1, 1);
        for (int record : new int[] {0, -1, 3, 41, Integer.MAX_VALUE, Integer.MIN_VALUE}) {
            CHECKS.dueScore("no first", x, record, 1, -1, -1);
            CHECKS.dueScore("no second", x, 1, record, -1, -1);
            CHECKS.dueScore("neither", x, record, record, -1, -1);
        }
    }

    private static void noCommonPart() {
        RecordMatch x = two();
        CHECKS.dueScore("no fields", x, 1, 2, Checks.THROWN, Checks.THROWN);
        CHECKS.dueScore("no fields, with itself", x, 1, 1, Checks.THROWN, Checks.THROWN);
        x.field(1, 0);
        x.field(2, 1);
        x.field(1, 5);
        x.field(2, 5);
        CHECKS.dueScore("none in common", x, 1, 2, Checks.THROWN, Checks.THROWN);
        x.field(1, 1);
        CHECKS.dueScore("one in common", x, 1, 2, 1, 1);
        x.weight(1, 0, 1);
        CHECKS.dueScore("of weight 0, others are not", x, 1, 2, Checks.THROWN, Checks.THROWN);
        x.merge(1, 2);
        CHECKS.dueScore("in another comes first", x, 1, 2, -1, -1);
    }

    private static void largeTerms() {
        RecordMatch x = two();
        Checks.put(x, 1, 0, "a b c d e f g h i j k l m n o p q r s t u v w x y z 0 1 2 3");
        Checks.put(x, 2, 0, "4 5 6 7 8 9 aa bb cc dd ee ff gg hh ii jj kk ll mm nn oo 3");
        Checks.put(x, 1, 1, "1998");
        Checks.put(x, 2, 1, "1999");
        Checks.put(x, 1, 4, "9998");
        Checks.put(x, 2, 4, "9973");
        x.weight(0, 97, 7);
        x.weight(1, 89, 9);
        x.weight(4, 83, 8);
        // By hand: (97/7 * 1/51 + 89/9 * 1/2 + 83/8 * 9973/9998) / (97/7 + 89/9 + 83/8)
        CHECKS.dueScore("large terms", x, 1, 2, 1333360505L, 2922905302L);
    }
}
