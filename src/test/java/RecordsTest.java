/** Promises 1 to 4, and the terms RECORDS and FIELDS, sentence by sentence. */
public final class RecordsTest {
    private static final Checks CHECKS = new Checks();

    public static void main(String[] args) {
        noRecordsAtFirst();
        noFieldsAtFirst();
        constants();
        recordsAsTheyCome();
        ranksAreInts();
        newRecordsAreAlone();
        noRecordBehindForty();
        fieldsAreNumberedInAll();
        newTextsAreEmpty();
        noFieldWithoutRecord();
        noFieldInAnother();
        tags();
        noFieldBehindTwoHundred();
        signsComeBehind();
        lowestEightBits();
        noSignWithoutField();
        noSignBehindSixty();
        signsInAnother();
        fieldsOfWhatItHas();
        fieldsInTheOrderOfNumbers();
        noFieldsOfOneInAnother();
        CHECKS.end("RecordsTest");
    }

    private static void noRecordsAtFirst() {
        CHECKS.sentence("1: No records");
        RecordMatch x = new RecordMatch();
        for (int record = -1; record <= 1; record++) {
            CHECKS.due("field", x.field(record, 0), 0);
            CHECKS.due("isbn", x.isbn(record, 0), -1);
            CHECKS.due("score", Checks.score(x, record, record, 0), -1);
            CHECKS.due("candidates", x.candidates(record), -1);
            CHECKS.due("merge", x.merge(record, 1), 0);
            CHECKS.due("winner", x.winner(record, 1), 0);
            CHECKS.due("undo", x.undo(record), 0);
            CHECKS.due("locked", x.locked(record, true), -1);
            CHECKS.due("index", Checks.index(x, record, 0), -1);
        }
        CHECKS.due("at", x.at(0), -1);
        CHECKS.due("the first record", x.record(0), 1);
        CHECKS.due("it is not locked", x.locked(1, false), 0);
        CHECKS.due("another object has none", new RecordMatch().locked(1, true), -1);
    }

    private static void noFieldsAtFirst() {
        CHECKS.sentence("1: no fields");
        RecordMatch x = Checks.records(1);
        x.sign(1, '7');
        CHECKS.due("isbn", x.isbn(1, 0), -1);
        CHECKS.due("winner", x.winner(1, 1), 0);
        CHECKS.due("score", Checks.score(x, 1, 1, 0), Checks.THROWN);
        CHECKS.due("index", Checks.index(x, 1, 0), Checks.THROWN);
        CHECKS.due("the first field", x.field(1, 0), 1);
        CHECKS.due("another object has none", Checks.records(1).winner(1, 1), 0);
    }

    private static void constants() {
        CHECKS.sentence("NONE = -1");
        CHECKS.due("NONE", RecordMatch.NONE, -1);
    }

    private static void recordsAsTheyCome() {
        CHECKS.sentence("RECORDS are 1 .. 40, as they come");
        RecordMatch x = new RecordMatch();
        for (int number = 1; number <= 40; number++) {
            CHECKS.due("not yet there", x.locked(number, true), -1);
            CHECKS.due("record " + number, x.record(100 - number), number);
            CHECKS.due("there", x.locked(number, true), 0);
        }
    }

    private static void ranksAreInts() {
        CHECKS.sentence("each with a RANK (an int)");
        int[] rising = {Integer.MIN_VALUE, Integer.MIN_VALUE + 1, -65536, -1, 0, 1, 255, 256, 65536,
            Integer.MAX_VALUE - 1, Integer.MAX_VALUE};
        for (int low = 0; low < rising.length; low++) {
            for (int high = low + 1; high < rising.length; high++) {
                String what = "ranks " + rising[low] + " and " + rising[high];
                CHECKS.due(what, Checks.ranked(rising[low], rising[high]).merge(1, 2), 2);
                CHECKS.due(what, Checks.ranked(rising[high], rising[low]).merge(1, 2), 1);
            }
        }
    }

    private static void newRecordsAreAlone() {
        CHECKS.sentence("2: A record more, with a rank, alone: its number");
        RecordMatch x = Checks.ranked(2, 1);
        x.merge(1, 2);
        CHECKS.due("the next one", x.record(9), 3);
        CHECKS.due("has none", x.undo(3), 0);
        CHECKS.dueStanding("is in none", x, 3, true);
        CHECKS.due("with its rank", x.merge(1, 3), 3);
    }

    private static void noRecordBehindForty() {
        CHECKS.sentence("2: 0 if there are 40");
        RecordMatch x = Checks.records(39);
        CHECKS.due("the 40th", x.record(1), 40);
        CHECKS.due("the 41st", x.record(1), 0);
        CHECKS.due("the 41st again", x.record(Integer.MAX_VALUE), 0);
        CHECKS.due("is not there", x.locked(41, true), -1);
        CHECKS.due("nor as 0", x.locked(0, true), -1);
        CHECKS.due("40 is there", x.locked(40, true), 0);
        x.merge(1, 2);
        CHECKS.due("one in another is there too", x.record(1), 0);
    }

    private static void fieldsAreNumberedInAll() {
        CHECKS.sentence("FIELDS are 1 .. 200, in all, each of a record");
        RecordMatch x = Checks.records(40);
        for (int number = 1; number <= 200; number++) {
            CHECKS.due("field " + number, x.field(1 + number % 40, 7), number);
        }
        for (int number = 1; number <= 40; number++) {
            int first = number == 1 ? 40 : number - 1;
            CHECKS.due("of its record", x.winner(number, first), first);
            CHECKS.due("of no other", x.winner(number % 40 + 1, first), 0);
        }
    }

    private static void newTextsAreEmpty() {
        CHECKS.sentence("3: with an empty text");
        RecordMatch x = Checks.records(2);
        int first = Checks.put(x, 1, 7, "a");
        Checks.put(x, 1, 1, "5");
        int later = x.field(1, 7);
        CHECKS.due("it is shorter than one sign", x.winner(1, later), first);
        x.sign(later, ' ');
        CHECKS.due("one sign makes one", x.winner(1, later), first);
        x.sign(later, ' ');
        CHECKS.due("two make two", x.winner(1, first), later);
        x.field(2, 1);
        CHECKS.dueScore("no text of a field before", x, 1, 2, 0, 1);
    }

    private static void noFieldWithoutRecord() {
        CHECKS.sentence("3: 0 if there is no such record");
        RecordMatch x = Checks.records(2);
        for (int record : Checks.notThere(2)) {
            CHECKS.due("field(" + record + ", 1)", x.field(record, 1), 0);
        }
        CHECKS.due("a refused one takes no number", x.field(2, 1), 1);
    }

    private static void noFieldInAnother() {
        CHECKS.sentence("3: or it is in another one");
        RecordMatch x = Checks.ranked(3, 2, 1);
        x.merge(2, 3);
        CHECKS.due("in another", x.field(3, 0), 0);
        CHECKS.due("has another", x.field(2, 0), 1);
        x.merge(1, 2);
        CHECKS.due("in one that is in another", x.field(3, 0), 0);
        CHECKS.due("has one and is in another", x.field(2, 0), 0);
        CHECKS.due("has all", x.field(1, 0), 2);
        x.undo(1);
        CHECKS.due("by itself again", x.field(2, 0), 3);
        CHECKS.due("still in another", x.field(3, 0), 0);
    }

    private static void tags() {
        CHECKS.sentence("3: the tag is not 0 .. 9");
        RecordMatch x = Checks.records(1);
        for (int tag : new int[] {-1, 10, 11, 256, 265, -256, Integer.MAX_VALUE, Integer.MIN_VALUE}) {
            CHECKS.due("tag " + tag, x.field(1, tag), 0);
        }
        for (int tag = 0; tag <= 9; tag++) {
            CHECKS.due("tag " + tag, x.field(1, tag), tag + 1);
        }
        for (int tag = 0; tag <= 9; tag++) {
            CHECKS.due("tag " + tag + " is like no other", x.winner(1, tag + 1), tag + 1);
        }
    }

    private static void noFieldBehindTwoHundred() {
        CHECKS.sentence("3: or there are 200");
        RecordMatch x = Checks.records(3);
        for (int number = 1; number < 200; number++) {
            x.field(1 + number % 2, 7);
        }
        CHECKS.due("the 200th", x.field(3, 7), 200);
        CHECKS.due("is there", x.winner(3, 200), 200);
        for (int record = 1; record <= 3; record++) {
            CHECKS.due("the 201st, of " + record, x.field(record, 7), 0);
            CHECKS.due("is not there", x.winner(record, 201), 0);
        }
        x.sign(201, 'a');
        x.sign(200, 'a');
        CHECKS.due("200 still is", x.winner(3, 200), 200);
    }

    private static void signsComeBehind() {
        CHECKS.sentence("4: A sign comes behind a field's text");
        RecordMatch x = Checks.records(2);
        int one = Checks.put(x, 1, 1, "12");
        int other = Checks.put(x, 2, 1, "1");
        CHECKS.dueScore("12 and 1", x, 1, 2, 0, 1);
        x.sign(other, '1');
        CHECKS.dueScore("12 and 11", x, 1, 2, 1, 2);
        x.sign(one, '3');
        x.sign(other, '0');
        CHECKS.dueScore("123 and 110", x, 1, 2, 0, 1);
        x.sign(one, '7');
        Checks.type(x, other, "1236");
        CHECKS.dueScore("1237 and 1101236", x, 1, 2, 1, 2);
    }

    private static void lowestEightBits() {
        CHECKS.sentence("4: the lowest eight bits");
        for (int high : new int[] {256, -256, 1 << 8, 1 << 16, 1 << 30, 1 << 31, 0x7fffff00, 0xffff00}) {
            RecordMatch x = Checks.records(2);
            int one = x.field(1, 3);
            x.sign(one, high | 'a');
            x.sign(one, high | ' ');
            x.sign(one, high | '0');
            Checks.put(x, 2, 3, "a 0");
            CHECKS.dueScore("bits " + Integer.toHexString(high), x, 1, 2, 1, 1);
        }
        // All eight count: 'a', with its eighth bit, is no letter, and is not the sign without it.
        CHECKS.dueLike(0, "\u00e1", "a", 0, 1);
        CHECKS.dueLike(3, "a\u00e1b", "a b", 1, 1);
        RecordMatch x = Checks.records(1);
        int one = Checks.put(x, 1, 7, "a");
        int other = x.field(1, 7);
        x.sign(other, 0);
        x.sign(other, 1 << 8);
        CHECKS.due("sign 0 is a sign", x.winner(1, one), other);
    }

    private static void noSignWithoutField() {
        CHECKS.sentence("4: nothing happens if there is no such field");
        RecordMatch x = Checks.records(5);
        for (int record = 1; record <= 4; record++) {
            Checks.put(x, record, 1, "12");
        }
        for (int field : Checks.notThere(4)) {
            Checks.type(x, field, "34");
        }
        for (int record = 2; record <= 4; record++) {
            CHECKS.dueScore("no text has grown", x, 1, record, 1, 1);
        }
        CHECKS.due("no field is made", x.field(5, 1), 5);
        Checks.type(x, 5, "12");
        CHECKS.dueScore("nor does one that comes later have them", x, 1, 5, 1, 1);
    }

    private static void noSignBehindSixty() {
        CHECKS.sentence("4: or it has 60");
        RecordMatch x = Checks.records(2);
        int full = Checks.put(x, 1, 1, " ".repeat(58));
        Checks.put(x, 2, 1, "45");
        x.sign(full, '4');
        CHECKS.dueScore("the 59th", x, 1, 2, 0, 1);
        x.sign(full, '5');
        CHECKS.dueScore("the 60th", x, 1, 2, 1, 1);
        x.sign(full, '6');
        CHECKS.dueScore("the 61st", x, 1, 2, 1, 1);

        RecordMatch y = Checks.records(1);
        int one = Checks.put(y, 1, 7, "a".repeat(60));
        int other = Checks.put(y, 1, 7, "a".repeat(59));
        int third = Checks.put(y, 1, 8, "");
        CHECKS.due("60 are more than 59", y.winner(1, other), one);
        Checks.type(y, other, "abc");
        CHECKS.due("62 are 60", y.winner(1, other), one);
        CHECKS.due("nor does the next field get them", y.winner(1, third), third);
        RecordMatch z = Checks.records(1);
        int shorter = Checks.put(z, 1, 7, "a".repeat(59));
        int longer = Checks.put(z, 1, 7, "a".repeat(60));
        CHECKS.due("59 are less than 60", z.winner(1, shorter), longer);
    }

    private static void signsInAnother() {
        CHECKS.sentence("4: a field of a record in another is there");
        RecordMatch x = Checks.ranked(1, 0);
        int small = x.field(1, 7);
        int large = x.field(2, 7);
        x.merge(1, 2);
        CHECKS.due("before", x.winner(1, large), small);
        x.sign(large, 'a');
        CHECKS.due("it grows", x.winner(1, small), large);
    }

    private static void fieldsOfWhatItHas() {
        CHECKS.sentence("The FIELDS OF a record are its own and those of the records that it has");
        RecordMatch x = Checks.ranked(4, 3, 2, 1);
        for (int record = 1; record <= 4; record++) {
            x.field(record, 5 + record % 4);
        }
        x.merge(3, 4);
        x.merge(2, 3);
        for (int field = 2; field <= 4; field++) {
            CHECKS.due("2 has 3, which has 4", x.winner(2, field), field);
        }
        CHECKS.due("that of 1 is not of it", x.winner(2, 1), 0);
        CHECKS.due("its own is of 1", x.winner(1, 1), 1);
        CHECKS.due("those of 2 are not", x.winner(1, 2), 0);
    }

    private static void fieldsInTheOrderOfNumbers() {
        CHECKS.sentence("in the order of their numbers");
        RecordMatch x = Checks.ranked(2, 1, 3);
        Checks.put(x, 2, 2, "0");
        Checks.put(x, 1, 2, "0306406152");
        Checks.put(x, 2, 2, "0306406152");
        Checks.put(x, 1, 2, "0");
        Checks.put(x, 3, 2, "0306406152");
        Checks.put(x, 1, 2, "0");
        x.merge(1, 2);
        x.merge(1, 3);
        int[] right = {0, 1, 1, 0, 1, 0};
        for (int i = 0; i < right.length; i++) {
            CHECKS.due("number " + i, x.isbn(3, i), right[i]);
        }
        Checks.put(x, 3, 2, "080442957X");
        CHECKS.due("a later one is the last", x.isbn(3, 6), 1);
    }

    private static void noFieldsOfOneInAnother() {
        CHECKS.sentence("of a record that is in another one there are none");
        RecordMatch x = Checks.ranked(3, 2, 1);
        int inner = Checks.put(x, 3, 2, "0306406152");
        int middle = Checks.put(x, 2, 2, "0306406152");
        x.merge(2, 3);
        x.merge(1, 2);
        for (int record = 2; record <= 3; record++) {
            CHECKS.due("isbn of " + record, x.isbn(record, 0), -1);
            CHECKS.due("winner of " + record, x.winner(record, inner), 0);
            CHECKS.due("winner of " + record, x.winner(record, middle), 0);
            CHECKS.due("index of " + record, Checks.index(x, record, 0), Checks.THROWN);
        }
        CHECKS.due("they are of the one that has it", x.isbn(1, 1), 1);
    }
}
