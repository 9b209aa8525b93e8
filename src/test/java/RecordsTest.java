/** Promises 1 to 4: a new object, record, field, sign. */
public final class RecordsTest {
    private static final Checks CHECKS = new Checks();

    public static void main(String[] args) {
        newObject();
        records();
        fields();
        fieldOfRecordInAnother();
        mostFields();
        signs();
        lowestEightBits();
        signsOfFieldsInAnother();
        CHECKS.end("RecordsTest");
    }

    private static void newObject() {
        RecordMatch x = new RecordMatch();
        CHECKS.due("NONE", RecordMatch.NONE, -1);
        for (int record = -1; record <= 1; record++) {
            CHECKS.due("new: field", x.field(record, 0), 0);
            CHECKS.due("new: isbn", x.isbn(record, 0), -1);
            CHECKS.due("new: score", Checks.score(x, record, record, 0), -1);
            CHECKS.due("new: candidates", x.candidates(record), -1);
            CHECKS.due("new: merge", x.merge(record, 1), 0);
            CHECKS.due("new: winner", x.winner(record, 1), 0);
            CHECKS.due("new: undo", x.undo(record), 0);
            CHECKS.due("new: locked", x.locked(record, true), -1);
            CHECKS.due("new: index", Checks.index(x, record, 0), -1);
        }
        CHECKS.due("new: at", x.at(0), -1);
        x.sign(1, 'a');
        x.record(0);
        CHECKS.due("new: the first field", x.field(1, 0), 1);
        CHECKS.due("objects are apart", new RecordMatch().field(1, 0), 0);
    }

    private static void records() {
        RecordMatch x = new RecordMatch();
        for (int number = 1; number <= 40; number++) {
            CHECKS.due("record " + number, x.record(number % 2 == 0 ? Integer.MIN_VALUE : Integer.MAX_VALUE), number);
        }
        CHECKS.due("record 41", x.record(1), 0);
        CHECKS.due("record 41 again", x.record(1), 0);
        CHECKS.due("record 41 is not there", x.locked(41, true), -1);
        CHECKS.due("record 40 is there", x.locked(40, true), 0);
        CHECKS.due("a record is alone", x.undo(40), 0);
        CHECKS.due("merged ones still count", x.merge(1, 2), 1);
        CHECKS.due("record 41 after a merge", x.record(1), 0);
    }

    private static void fields() {
        RecordMatch x = new RecordMatch();
        x.record(0);
        CHECKS.due("tag 0", x.field(1, 0), 1);
        CHECKS.due("tag 9", x.field(1, 9), 2);
        CHECKS.due("tag 10", x.field(1, 10), 0);
        CHECKS.due("tag -1", x.field(1, -1), 0);
        CHECKS.due("record 0", x.field(0, 1), 0);
        CHECKS.due("record 2", x.field(2, 1), 0);
        CHECKS.due("record -1", x.field(-1, 1), 0);
        CHECKS.due("the greatest int", x.field(Integer.MAX_VALUE, Integer.MAX_VALUE), 0);
        CHECKS.due("the least int", x.field(Integer.MIN_VALUE, Integer.MIN_VALUE), 0);
        CHECKS.due("a refused one takes no number", x.field(1, 1), 3);
        x.record(0);
        CHECKS.due("numbers are of all records", x.field(2, 1), 4);
        CHECKS.dueScore("empty texts", x, 1, 2, 1, 1);
    }

    private static void fieldOfRecordInAnother() {
        RecordMatch x = new RecordMatch();
        x.record(1);
        x.record(0);
        x.merge(1, 2);
        CHECKS.due("field of one in another", x.field(2, 0), 0);
        CHECKS.due("field of one with another", x.field(1, 0), 1);
        x.undo(1);
        CHECKS.due("field of one by itself again", x.field(2, 0), 2);
    }

    private static void mostFields() {
        RecordMatch x = new RecordMatch();
        x.record(0);
        x.record(0);
        for (int number = 1; number <= 200; number++) {
            CHECKS.due("field " + number, x.field(1 + number % 2, number % 10), number);
        }
        CHECKS.due("field 201", x.field(1, 0), 0);
        CHECKS.due("field 201 of another record", x.field(2, 0), 0);
        CHECKS.due("field 200 is there", x.winner(1, 200), 10);
        CHECKS.due("field 201 is not there", x.winner(1, 201), 0);
    }

    private static void signs() {
        RecordMatch x = new RecordMatch();
        x.record(0);
        x.record(0);
        int year = Checks.put(x, 1, 1, "12");
        int other = Checks.put(x, 2, 1, "34");
        Checks.type(x, year, "34");
        Checks.type(x, other, "");
        x.sign(0, '9');
        x.sign(-1, '9');
        x.sign(3, '9');
        x.sign(Integer.MAX_VALUE, '9');
        x.sign(Integer.MIN_VALUE, '9');
        CHECKS.dueScore("1234 and 34", x, 1, 2, 0, 1);
        for (int i = 4; i < 58; i++) {
            x.sign(year, ' ');
        }
        Checks.type(x, year, "35");
        CHECKS.due("59 and 60 come behind", x.score(1, 2, 0), 0);
        Checks.type(x, other, "35");
        CHECKS.dueScore("3435 and 3435", x, 1, 2, 1, 1);
        x.sign(year, '6');
        CHECKS.dueScore("the 61st does not come", x, 1, 2, 1, 1);
    }

    private static void lowestEightBits() {
        RecordMatch x = new RecordMatch();
        x.record(0);
        x.record(0);
        int title = x.field(1, 0);
        x.sign(title, 'a' + 256);
        x.sign(title, 'b' - 256);
        x.sign(title, 'c' + (1 << 31));
        int other = Checks.put(x, 2, 0, "abc");
        CHECKS.dueScore("higher bits are left out", x, 1, 2, 1, 1);
        x.sign(title, 0);
        x.sign(title, -1);
        x.sign(title, 0xE4);
        x.sign(title, 0x130);
        CHECKS.due("'0' by its lowest bits", x.score(1, 2, 1), 2);
        Checks.type(x, other, " 0");
        CHECKS.dueScore("0, 255 and 228 are no letters", x, 1, 2, 1, 1);
    }

    private static void signsOfFieldsInAnother() {
        RecordMatch x = new RecordMatch();
        x.record(1);
        x.record(0);
        int small = x.field(1, 7);
        int large = x.field(2, 7);
        x.merge(1, 2);
        CHECKS.due("before", x.winner(1, large), small);
        x.sign(large, 'a');
        CHECKS.due("a field of one in another still grows", x.winner(1, small), large);
    }
}
