/** Promise 11: winner, sentence by sentence. */
public final class WinnersTest {
    private static final Checks CHECKS = new Checks();

    public static void main(String[] args) {
        sameTag();
        longestText();
        highestRank();
        itsOwnRecord();
        lowestNumber();
        noSuchRecord();
        recordInAnother();
        notOneOfItsFields();
        CHECKS.end("WinnersTest");
    }

    private static void sameTag() {
        CHECKS.sentence("11: Of the fields of a record with the tag of a field of it");
        RecordMatch x = Checks.records(2);
        int[] fields = new int[10];
        for (int tag = 0; tag <= 9; tag++) {
            fields[tag] = Checks.put(x, 1, tag, "a".repeat(tag + 1));
        }
        for (int tag = 0; tag <= 9; tag++) {
            CHECKS.due("tag " + tag, x.winner(1, fields[tag]), fields[tag]);
        }
        int other = Checks.put(x, 2, 3, "a longer text");
        CHECKS.due("another record's is not asked", x.winner(1, fields[3]), fields[3]);
        x.merge(1, 2);
        CHECKS.due("it is, once it is had", x.winner(1, fields[3]), other);
        CHECKS.due("for that tag alone", x.winner(1, fields[4]), fields[4]);
    }

    private static void longestText() {
        CHECKS.sentence("11: the one with the longest text");
        RecordMatch x = Checks.ranked(9, 1, 0);
        int high = Checks.put(x, 1, 5, "ab");
        int middle = Checks.put(x, 2, 5, "abcd");
        int low = Checks.put(x, 3, 5, "abc");
        x.merge(1, 2);
        x.merge(1, 3);
        for (int field = high; field <= low; field++) {
            CHECKS.due("asked by " + field, x.winner(1, field), middle);
        }
        Checks.type(x, low, "  ");
        CHECKS.due("any sign counts", x.winner(1, high), low);
        x.sign(middle, 0);
        x.sign(middle, 255);
        CHECKS.due("these too", x.winner(1, high), middle);
        RecordMatch y = Checks.ranked(9, 1);
        int one = y.field(1, 5);
        int other = Checks.put(y, 2, 5, "a");
        y.merge(1, 2);
        CHECKS.due("one sign is longer than none", y.winner(1, one), other);
    }

    private static void highestRank() {
        CHECKS.sentence("11: of those the one whose own record has the highest rank");
        int[][] ranks = {{1, 2}, {2, 1}, {-2, -1}, {-1, 1}, {Integer.MIN_VALUE, Integer.MAX_VALUE},
            {Integer.MAX_VALUE, Integer.MIN_VALUE}, {Integer.MIN_VALUE, 1}, {-2, Integer.MAX_VALUE}};
        for (int[] two : ranks) {
            RecordMatch x = Checks.ranked(two);
            x.field(1, 5);
            x.field(2, 5);
            int high = two[0] > two[1] ? 1 : 2;
            x.merge(1, 2);
            for (int field = 1; field <= 2; field++) {
                CHECKS.due("ranks " + two[0] + ", " + two[1], x.winner(high, field), high);
            }
        }
    }

    /** The rank of the record that has it, or of the one through which it came, does not count. */
    private static void itsOwnRecord() {
        CHECKS.sentence("11: whose own record");
        RecordMatch x = Checks.ranked(9, 5, 3, 4);
        int ofThird = x.field(3, 5);
        int ofFourth = x.field(4, 5);
        x.merge(2, 3);
        x.merge(1, 4);
        x.merge(1, 2);
        CHECKS.due("4 is above 3, though 3 came by 5", x.winner(1, ofThird), ofFourth);
        x.undo(1);
        int ofSecond = x.field(2, 5);
        x.merge(1, 2);
        CHECKS.due("5 is above 4", x.winner(1, ofThird), ofSecond);
        int ofFirst = x.field(1, 5);
        CHECKS.due("9 is above 5", x.winner(1, ofThird), ofFirst);
    }

    private static void lowestNumber() {
        CHECKS.sentence("11: of those the lowest number");
        RecordMatch x = Checks.ranked(9, 9);
        for (int field = 1; field <= 4; field++) {
            Checks.put(x, 2 - field % 2, 5, "abc");
        }
        CHECKS.due("of the first", x.winner(1, 3), 1);
        CHECKS.due("of the second", x.winner(2, 4), 2);
        x.merge(1, 2);
        for (int field = 1; field <= 4; field++) {
            CHECKS.due("of both, asked by " + field, x.winner(1, field), 1);
        }
        RecordMatch y = Checks.ranked(9, 9);
        y.field(2, 5);
        y.field(1, 5);
        y.merge(1, 2);
        CHECKS.due("of the field, not of the record", y.winner(1, 2), 1);
    }

    private static void noSuchRecord() {
        CHECKS.sentence("11: 0 if there is no such record");
        RecordMatch x = Checks.records(2);
        x.field(1, 5);
        x.field(2, 5);
        for (int record : Checks.notThere(2)) {
            CHECKS.due("winner(" + record + ", 1)", x.winner(record, 1), 0);
            CHECKS.due("winner(" + record + ", " + record + ")", x.winner(record, record), 0);
        }
    }

    private static void recordInAnother() {
        CHECKS.sentence("11: of a record that is in another one there are no fields");
        RecordMatch x = Checks.ranked(2, 1);
        int first = x.field(1, 5);
        int second = x.field(2, 5);
        x.merge(1, 2);
        CHECKS.due("its own", x.winner(2, second), 0);
        CHECKS.due("that of the one that has it", x.winner(2, first), 0);
        x.undo(1);
        CHECKS.due("by itself again", x.winner(2, second), second);
    }

    private static void notOneOfItsFields() {
        CHECKS.sentence("11: 0 if the field is not one of its fields");
        RecordMatch x = Checks.ranked(3, 2, 1);
        int first = x.field(1, 5);
        int second = x.field(2, 5);
        CHECKS.due("that of another", x.winner(1, second), 0);
        CHECKS.due("that of another, behind", x.winner(2, first), 0);
        CHECKS.due("of one without fields", x.winner(3, first), 0);
        for (int field : Checks.notThere(2)) {
            CHECKS.due("winner(1, " + field + ")", x.winner(1, field), 0);
            CHECKS.due("winner(3, " + field + ")", x.winner(3, field), 0);
        }
        x.merge(1, 2);
        CHECKS.due("it is now", x.winner(1, second), first);
        x.undo(1);
        CHECKS.due("and no more", x.winner(1, second), 0);
    }
}
