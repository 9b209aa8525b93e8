/** Promises 6 and 7, and the terms LIKENESS and WEIGHT, sentence by sentence. */
public final class LikenessTest {
    private static final Checks CHECKS = new Checks();

    public static void main(String[] args) {
        partsOfBoth();
        firstFieldCounts();
        titles();
        titlesWithoutWords();
        years();
        bookNumbers();
        publishers();
        pages();
        pagesOfZero();
        oneAtFirst();
        sumByWeights();
        weightIsSet();
        noSuchPart();
        upOutOfRange();
        downOutOfRange();
        leastTerms();
        sides();
        zeroIsZeroOverOne();
        notThere();
        inAnother();
        noPartOfBoth();
        weightsAllZero();
        largeTerms();
        CHECKS.end("LikenessTest");
    }

    /** Two records with an empty field for each part: their parts are 0, 1, 0, 1 and 1. */
    private static RecordMatch empties() {
        RecordMatch x = Checks.records(2);
        for (int part = 0; part < 5; part++) {
            x.field(1, part);
            x.field(2, part);
        }
        return x;
    }

    private static void partsOfBoth() {
        CHECKS.sentence("LIKENESS of two records, by parts for which both have a field");
        for (int part = 0; part < 5; part++) {
            RecordMatch x = Checks.records(2);
            int other = part == 1 ? 4 : 1;
            x.field(1, other);
            x.field(2, other);
            CHECKS.dueScore("one part, which is 1", x, 1, 2, 1, 1);
            Checks.put(x, 1, part, "a 1");
            CHECKS.dueScore("part " + part + " of the first alone", x, 1, 2, 1, 1);
            CHECKS.dueScore("part " + part + " of the second alone", x, 2, 1, 1, 1);
            Checks.put(x, 2, part, "b 0306406159");
            CHECKS.dueScore("part " + part + " of both", x, 1, 2, part == 4 ? 3080 : 1, part == 4 ? 6159 : 2);
        }
    }

    private static void firstFieldCounts() {
        CHECKS.sentence("the first one with the tag counts");
        RecordMatch x = Checks.ranked(1, 0, 0);
        Checks.put(x, 2, 1, "5");
        Checks.put(x, 1, 1, "1");
        Checks.put(x, 1, 1, "5");
        Checks.put(x, 2, 1, "1");
        CHECKS.dueScore("1 and 5", x, 1, 2, 0, 1);
        Checks.put(x, 3, 1, "4");
        CHECKS.dueScore("1 and 4", x, 1, 3, 0, 1);
        x.merge(1, 2);
        CHECKS.dueScore("5, which it got, and 4", x, 1, 3, 1, 2);
        x.undo(1);
        CHECKS.dueScore("1 and 4 again", x, 1, 3, 0, 1);
        RecordMatch y = Checks.records(2);
        for (int part = 0; part < 5; part++) {
            y.field(1, part);
            Checks.put(y, 1, part, "0306406152 longer");
            Checks.put(y, 2, part, "0306406152 longer");
        }
        CHECKS.dueScore("the first one, though it is empty", y, 1, 2, 0, 1);
        CHECKS.dueScore("the first one, also behind", y, 2, 1, 0, 1);
    }

    private static void titles() {
        CHECKS.sentence("title: the number of different words that are in both texts, divided by those that are in one at least");
        CHECKS.dueLike(0, "The great Wall", "great wall, the", 1, 1);
        CHECKS.dueLike(0, "a b c", "b c d", 1, 2);
        CHECKS.dueLike(0, "a b c", "c d e", 1, 5);
        CHECKS.dueLike(0, "a b", "c d", 0, 1);
        CHECKS.dueLike(0, "a a b", "a", 1, 2);
        CHECKS.dueLike(0, "a b b", "b b c c", 1, 3);
        CHECKS.dueLike(0, "a a b", "b b a a b", 1, 1);
        CHECKS.dueLike(0, "a a", "b b", 0, 1);
        CHECKS.dueLike(0, "a a a a", "a b c", 1, 3);
        CHECKS.dueLike(0, "", "a", 0, 1);
        CHECKS.dueLike(0, "??", "a b", 0, 1);
    }

    private static void titlesWithoutWords() {
        CHECKS.sentence("0 if there are none at all");
        CHECKS.dueLike(0, "", "", 0, 1);
        CHECKS.dueLike(0, "?!", "--", 0, 1);
        CHECKS.dueLike(0, "?", "", 0, 1);
        CHECKS.dueLike(0, "\u00e4", "\u00e4", 0, 1);
        RecordMatch x = Checks.records(1);
        x.field(1, 0);
        CHECKS.dueScore("with itself", x, 1, 1, 0, 1);
        x.field(1, 1);
        CHECKS.dueScore("it is a part of 0", x, 1, 1, 1, 2);
    }

    private static void years() {
        CHECKS.sentence("year: 1 if the numbers are the same, 1/2 if they are beside one another, else 0");
        CHECKS.dueLike(1, "1998", "1998", 1, 1);
        CHECKS.dueLike(1, "1998", "c1999", 1, 2);
        CHECKS.dueLike(1, "1998", "2000", 0, 1);
        CHECKS.dueLike(1, "1999", "2000", 1, 2);
        CHECKS.dueLike(1, "0", "1", 1, 2);
        CHECKS.dueLike(1, "0", "2", 0, 1);
        CHECKS.dueLike(1, "9998", "9999", 1, 2);
        CHECKS.dueLike(1, "9999", "9999", 1, 1);
        CHECKS.dueLike(1, "9999", "0", 0, 1);
        CHECKS.dueLike(1, "1", "9999", 0, 1);
        CHECKS.dueLike(1, "9999", "10000", 0, 1);
    }

    private static void bookNumbers() {
        CHECKS.sentence("book number: 1 if both are right and their FORMS the same, else 0");
        CHECKS.dueLike(2, "0306406152", "9780306406157", 1, 1);
        CHECKS.dueLike(2, "0306406152", "0-306-40615-2", 1, 1);
        CHECKS.dueLike(2, "0306406152", "080442957X", 0, 1);
        CHECKS.dueLike(2, "0306406153", "0306406153", 0, 1);
        CHECKS.dueLike(2, "0306406153", "9780306406157", 0, 1);
        CHECKS.dueLike(2, "0306406152", "9780306406158", 0, 1);
        CHECKS.dueLike(2, "", "", 0, 1);
        CHECKS.dueLike(2, "none", "none", 0, 1);
        CHECKS.dueLike(2, "0000000000000", "", 0, 1);
        CHECKS.dueLike(2, "0000000000000", "0000000000000", 1, 1);
    }

    private static void publishers() {
        CHECKS.sentence("publisher: 1 if both have the same words in the same order, else 0");
        CHECKS.dueLike(3, "A & B", "a, B.", 1, 1);
        CHECKS.dueLike(3, "A & B", "B & A", 0, 1);
        CHECKS.dueLike(3, "A", "A A", 0, 1);
        CHECKS.dueLike(3, "A", "A B", 0, 1);
        CHECKS.dueLike(3, "B", "A B", 0, 1);
        CHECKS.dueLike(3, "A B C", "A B D", 0, 1);
        CHECKS.dueLike(3, "A B C", "D B C", 0, 1);
        CHECKS.dueLike(3, "A A B", "A B B", 0, 1);
        CHECKS.dueLike(3, "AB", "A B", 0, 1);
        CHECKS.dueLike(3, "", "A", 0, 1);
        // Two without any word have the same words.
        CHECKS.dueLike(3, "", "", 1, 1);
        CHECKS.dueLike(3, "&", "", 1, 1);
    }

    private static void pages() {
        CHECKS.sentence("pages: the smaller number divided by the larger one");
        CHECKS.dueLike(4, "300 p.", "450", 2, 3);
        CHECKS.dueLike(4, "300", "300", 1, 1);
        CHECKS.dueLike(4, "1", "9999", 1, 9999);
        CHECKS.dueLike(4, "9998", "9999", 9998, 9999);
        CHECKS.dueLike(4, "0", "300", 0, 1);
        CHECKS.dueLike(4, "", "1", 0, 1);
    }

    private static void pagesOfZero() {
        CHECKS.sentence("1 if both are 0");
        CHECKS.dueLike(4, "0", "0", 1, 1);
        CHECKS.dueLike(4, "", "", 1, 1);
        CHECKS.dueLike(4, "0", "none", 1, 1);
        CHECKS.dueLike(4, "10000", "0000", 1, 1);
    }

    private static void oneAtFirst() {
        CHECKS.sentence("Each part has a WEIGHT, a fraction (1 at first)");
        RecordMatch x = Checks.records(2);
        Checks.put(x, 1, 0, "a b c");
        Checks.put(x, 2, 0, "a b d");
        CHECKS.dueScore("title", x, 1, 2, 1, 2);
        Checks.put(x, 1, 4, "1");
        Checks.put(x, 2, 4, "3");
        CHECKS.dueScore("title and pages", x, 1, 2, 5, 12);
        Checks.put(x, 1, 1, "7");
        Checks.put(x, 2, 1, "8");
        CHECKS.dueScore("and year", x, 1, 2, 4, 9);
        Checks.put(x, 1, 3, "A");
        Checks.put(x, 2, 3, "a");
        CHECKS.dueScore("and publisher", x, 1, 2, 7, 12);
        Checks.put(x, 1, 2, "0306406152");
        Checks.put(x, 2, 2, "9780306406157");
        CHECKS.dueScore("and book number", x, 1, 2, 2, 3);
        CHECKS.dueScore("with itself", x, 1, 1, 1, 1);
    }

    private static void sumByWeights() {
        CHECKS.sentence("the LIKENESS is the sum of the parts times their weights, divided by the sum of these weights");
        RecordMatch x = empties();
        CHECKS.dueScore("0, 1, 0, 1, 1", x, 1, 2, 3, 5);
        x.weight(0, 100, 1);
        CHECKS.dueScore("3 of 104", x, 1, 2, 3, 104);
        x.weight(1, 1, 10);
        CHECKS.dueScore("2.1 of 103.1", x, 1, 2, 21, 1031);
        x.weight(2, 0, 7);
        CHECKS.dueScore("2.1 of 102.1", x, 1, 2, 21, 1021);
        x.weight(3, 3, 7);
        CHECKS.dueScore("1.1 + 3/7 of 101.1 + 3/7", x, 1, 2, 107, 7107);
        x.weight(4, 5, 9);
        CHECKS.dueScore("1/10 + 3/7 + 5/9 of that and 100", x, 1, 2, 683, 63683);
        x.weight(0, 2, 8);
        CHECKS.dueScore("683/630 of 683/630 + 1/4", x, 1, 2, 1366, 1681);
        RecordMatch y = Checks.records(2);
        Checks.put(y, 1, 1, "1");
        Checks.put(y, 2, 1, "2");
        y.weight(1, 7, 9);
        y.weight(0, 50, 1);
        CHECKS.dueScore("those of parts that one has not do not count", y, 1, 2, 1, 2);
    }

    private static void weightIsSet() {
        CHECKS.sentence("6: A part's weight is up / down: 1");
        for (int part = 0; part < 5; part++) {
            for (long up : new long[] {0, 1, 2, 50, 99, 100}) {
                for (long down = 1; down <= 10; down++) {
                    dueWeight(part, up, down);
                }
            }
        }
        RecordMatch x = empties();
        x.weight(1, 7, 1);
        x.weight(1, 2, 1);
        CHECKS.dueScore("the latest counts", x, 1, 2, 2, 3);
        CHECKS.dueScore("in that object alone", empties(), 1, 2, 3, 5);
    }

    private static void dueWeight(int part, long up, long down) {
        RecordMatch x = empties();
        CHECKS.due("weight(" + part + ", " + up + ", " + down + ")", x.weight(part, up, down), 1);
        boolean isOne = part != 0 && part != 2;
        long above = isOne ? 2 * down + up : 3 * down;
        long below = 4 * down + up;
        long common = gcd(above, below);
        CHECKS.dueScore("with " + up + "/" + down + " for " + part, x, 1, 2, above / common, below / common);
    }

    private static long gcd(long one, long other) {
        return other == 0 ? one : gcd(other, one % other);
    }

    /** The weight is refused, and all of them stay as they were, at first and later. */
    private static void dueRefused(int part, long up, long down) {
        String what = "weight(" + part + ", " + up + ", " + down + ")";
        RecordMatch x = empties();
        CHECKS.due(what, x.weight(part, up, down), 0);
        CHECKS.dueScore(what + ": 1 stays", x, 1, 2, 3, 5);
        for (int each = 0; each < 5; each++) {
            x.weight(each, 1 + each, 7);
        }
        CHECKS.due(what, x.weight(part, up, down), 0);
        CHECKS.dueScore(what + ": the one before stays", x, 1, 2, 11, 15);
    }

    private static void noSuchPart() {
        CHECKS.sentence("6: 0, and it stays, if there is no such part");
        for (int part : new int[] {-1, 5, 6, 9, 10, 256, 260, Integer.MAX_VALUE, Integer.MIN_VALUE}) {
            dueRefused(part, 3, 1);
            dueRefused(part, 0, 1);
        }
        dueWeight(0, 3, 1);
        dueWeight(4, 3, 1);
    }

    private static void upOutOfRange() {
        CHECKS.sentence("6: up is not 0 .. 100");
        for (int part = 0; part < 5; part++) {
            for (long up : new long[] {-1, 101, 102, 256, 1L << 32, (1L << 32) + 3, Long.MAX_VALUE, Long.MIN_VALUE}) {
                dueRefused(part, up, 1);
                dueRefused(part, up, 10);
            }
            dueWeight(part, 0, 1);
            dueWeight(part, 100, 1);
        }
    }

    private static void downOutOfRange() {
        CHECKS.sentence("6: or down not 1 .. 10");
        for (int part = 0; part < 5; part++) {
            for (long down : new long[] {0, -1, 11, 12, 257, 1L << 32, (1L << 32) + 1, Long.MAX_VALUE, Long.MIN_VALUE}) {
                dueRefused(part, 3, down);
                dueRefused(part, 0, down);
            }
            dueWeight(part, 3, 1);
            dueWeight(part, 3, 10);
        }
    }

    private static void leastTerms() {
        CHECKS.sentence("7: The LIKENESS of two records in its least terms");
        CHECKS.dueLike(4, "300", "450", 2, 3);
        CHECKS.dueLike(4, "5000", "5000", 1, 1);
        CHECKS.dueLike(4, "4998", "9996", 1, 2);
        CHECKS.dueLike(4, "9973", "9974", 9973, 9974);
        CHECKS.dueLike(0, "a b c d", "a b", 1, 2);
        CHECKS.dueLike(0, "a b c d e f", "a b c d", 2, 3);
        RecordMatch x = Checks.records(2);
        Checks.put(x, 1, 4, "6");
        Checks.put(x, 2, 4, "9");
        x.weight(4, 4, 6);
        CHECKS.dueScore("a weight alone goes out", x, 1, 2, 2, 3);
    }

    private static void sides() {
        CHECKS.sentence("7: side 0 what is above, else what is below the line");
        RecordMatch x = Checks.records(2);
        Checks.put(x, 1, 4, "2");
        Checks.put(x, 2, 4, "3");
        CHECKS.due("side 0", Checks.score(x, 1, 2, 0), 2);
        for (int side : new int[] {1, 2, -1, 256, 65536, Integer.MAX_VALUE, Integer.MIN_VALUE}) {
            CHECKS.due("side " + side, Checks.score(x, 1, 2, side), 3);
        }
    }

    private static void zeroIsZeroOverOne() {
        CHECKS.sentence("7: 0 is 0 / 1");
        CHECKS.dueLike(0, "a b c", "d e f", 0, 1);
        CHECKS.dueLike(1, "1998", "2005", 0, 1);
        CHECKS.dueLike(4, "0", "9999", 0, 1);
        RecordMatch x = Checks.records(2);
        for (int part = 0; part < 5; part++) {
            Checks.put(x, 1, part, "0306406152");
            Checks.put(x, 2, part, "none");
            x.weight(part, 7, 3);
        }
        CHECKS.dueScore("all parts 0", x, 1, 2, 0, 1);
        RecordMatch y = empties();
        for (int part : new int[] {1, 3, 4}) {
            y.weight(part, 0, 9);
        }
        CHECKS.dueScore("only those of weight 0 are not 0", y, 1, 2, 0, 1);
    }

    private static void notThere() {
        CHECKS.sentence("7: NONE if one is not there");
        RecordMatch x = empties();
        for (int record : Checks.notThere(2)) {
            CHECKS.dueScore("no " + record, x, record, 1, -1, -1);
            CHECKS.dueScore("no " + record + " behind", x, 1, record, -1, -1);
            CHECKS.dueScore("no " + record + " with itself", x, record, record, -1, -1);
        }
        RecordMatch y = Checks.records(1);
        CHECKS.dueScore("nor any field", y, 1, 2, -1, -1);
        CHECKS.dueScore("nor any field, behind", y, 2, 1, -1, -1);
    }

    private static void inAnother() {
        CHECKS.sentence("7: NONE if one is in another one");
        RecordMatch x = Checks.ranked(3, 2, 1, 0);
        for (int record = 1; record <= 4; record++) {
            x.field(record, 1);
        }
        x.merge(2, 3);
        x.merge(1, 2);
        for (int record = 2; record <= 3; record++) {
            CHECKS.dueScore("in another", x, record, 4, -1, -1);
            CHECKS.dueScore("in another, behind", x, 4, record, -1, -1);
            CHECKS.dueScore("in that one", x, 1, record, -1, -1);
            CHECKS.dueScore("with itself", x, record, record, -1, -1);
        }
        CHECKS.dueScore("both in another", x, 2, 3, -1, -1);
        CHECKS.dueScore("one that has others", x, 1, 4, 1, 1);
        x.weight(1, 0, 1);
        CHECKS.dueScore("also without a weight", x, 2, 4, -1, -1);
        x.undo(1);
        x.weight(1, 1, 1);
        CHECKS.dueScore("by itself again", x, 2, 4, 1, 1);
    }

    private static void noPartOfBoth() {
        CHECKS.sentence("7: ArithmeticException if there is no part for which both have a field");
        RecordMatch x = Checks.ranked(1, 0, 0);
        CHECKS.dueScore("no fields", x, 1, 2, Checks.THROWN, Checks.THROWN);
        CHECKS.dueScore("no fields, with itself", x, 1, 1, Checks.THROWN, Checks.THROWN);
        x.field(1, 0);
        CHECKS.dueScore("one of the first", x, 1, 2, Checks.THROWN, Checks.THROWN);
        CHECKS.dueScore("one of the second", x, 2, 1, Checks.THROWN, Checks.THROWN);
        x.field(2, 1);
        x.field(1, 5);
        x.field(2, 5);
        CHECKS.dueScore("none of both", x, 1, 2, Checks.THROWN, Checks.THROWN);
        x.field(3, 1);
        CHECKS.dueScore("none of both yet", x, 1, 3, Checks.THROWN, Checks.THROWN);
        x.merge(1, 2);
        CHECKS.dueScore("one of both by what it has", x, 1, 3, 1, 1);
        x.undo(1);
        CHECKS.dueScore("no more", x, 1, 3, Checks.THROWN, Checks.THROWN);
    }

    private static void weightsAllZero() {
        CHECKS.sentence("7: or their weights are all 0");
        for (int part = 0; part < 5; part++) {
            RecordMatch x = Checks.records(2);
            x.field(1, part);
            x.field(2, part);
            x.field(1, (part + 1) % 5);
            x.weight(part, 0, 1 + part);
            CHECKS.dueScore("that of part " + part + " is, others are not", x, 1, 2, Checks.THROWN, Checks.THROWN);
            x.weight(part, 1, 10);
            int want = part == 0 || part == 2 ? 0 : 1;
            CHECKS.dueScore("that of part " + part + " is no more", x, 1, 2, want, 1);
        }
        RecordMatch y = empties();
        for (int part = 0; part < 4; part++) {
            y.weight(part, 0, 1);
        }
        CHECKS.dueScore("one is not 0", y, 1, 2, 1, 1);
        y.weight(4, 0, 10);
        CHECKS.dueScore("all five are 0", y, 1, 2, Checks.THROWN, Checks.THROWN);
    }

    private static void largeTerms() {
        CHECKS.sentence("7: the LIKENESS, however large its terms");
        RecordMatch x = Checks.records(2);
        Checks.put(x, 1, 0, "a b c d e f g h i j k l m n o p q r s t u v w x y z 0 1 2 3");
        Checks.put(x, 2, 0, "4 5 6 7 8 9 aa bb cc dd ee ff gg hh ii jj kk ll mm nn oo 3");
        Checks.put(x, 1, 1, "1998");
        Checks.put(x, 2, 1, "1999");
        Checks.put(x, 1, 4, "9998");
        Checks.put(x, 2, 4, "9973");
        x.weight(0, 97, 7);
        x.weight(1, 89, 9);
        x.weight(4, 83, 8);
        // By hand: (97/7 * 1/51 + 89/9 * 1/2 + 83/8 * 9973/9998) / (97/7 + 89/9 + 83/8)
        CHECKS.dueScore("large terms", x, 1, 2, 1333360505L, 2922905302L);
    }
}
