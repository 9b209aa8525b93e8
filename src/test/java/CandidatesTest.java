/** Promises 8, 9 and 14: candidates, at and index, sentence by sentence. */
public final class CandidatesTest {
    private static final Checks CHECKS = new Checks();

    public static void main(String[] args) {
        byTheirNumbers();
        withoutItself();
        howMany();
        withWhatItHas();
        noSuchRecord();
        inAnother();
        fromZeroOn();
        noneSuch();
        askedAtThatTime();
        howManyHave();
        withOthersCountOnce();
        noRecordForIndex();
        noSuchKey();
        noKeyInAnother();
        mostKeys();
        CHECKS.end("CandidatesTest");
    }

    /** All of these records have a key in common. */
    private static RecordMatch same(int... ranks) {
        RecordMatch x = Checks.ranked(ranks);
        for (int record = ranks.length; record >= 1; record--) {
            Checks.put(x, record, 0, "same");
        }
        return x;
    }

    private static void byTheirNumbers() {
        CHECKS.sentence("8: The records that are CANDIDATES with one, by their numbers");
        RecordMatch x = same(5, 1, 9, 1, 7);
        CHECKS.dueCandidates("neither by ranks nor by fields", x, 3, 1, 2, 4, 5);
        RecordMatch y = Checks.records(4);
        Checks.put(y, 1, 0, "ones");
        Checks.put(y, 1, 0, "twos");
        Checks.put(y, 4, 0, "ones");
        Checks.put(y, 2, 0, "twos");
        CHECKS.dueCandidates("not by keys", y, 1, 2, 4);
        RecordMatch z = same(new int[40]);
        CHECKS.due("all others", z.candidates(20), 39);
        for (int i = 0; i < 39; i++) {
            CHECKS.due("at(" + i + ")", z.at(i), i < 19 ? i + 1 : i + 2);
        }
        CHECKS.due("behind the last", z.at(39), -1);
    }

    private static void withoutItself() {
        CHECKS.sentence("8: without itself");
        CHECKS.dueCandidates("alone", same(0), 1);
        RecordMatch x = same(0, 0, 0);
        CHECKS.dueCandidates("the first", x, 1, 2, 3);
        CHECKS.dueCandidates("the middle one", x, 2, 1, 3);
        CHECKS.dueCandidates("the last", x, 3, 1, 2);
    }

    private static void howMany() {
        CHECKS.sentence("8: how many");
        RecordMatch x = Checks.records(3);
        CHECKS.due("no fields", x.candidates(1), 0);
        Checks.put(x, 1, 0, "same");
        Checks.put(x, 1, 0, "twice");
        CHECKS.due("none", x.candidates(1), 0);
        Checks.put(x, 2, 0, "same");
        CHECKS.due("one", x.candidates(1), 1);
        Checks.put(x, 2, 0, "twice");
        CHECKS.due("one by two keys", x.candidates(1), 1);
        Checks.put(x, 3, 0, "twice");
        CHECKS.due("two", x.candidates(1), 2);
    }

    private static void withWhatItHas() {
        CHECKS.sentence("8: one that is in another is asked for in that");
        RecordMatch x = Checks.ranked(0, 1, 0, 0);
        Checks.put(x, 1, 0, "ones");
        Checks.put(x, 2, 0, "twos");
        Checks.put(x, 3, 0, "twos");
        Checks.put(x, 4, 0, "ones");
        CHECKS.dueCandidates("alone", x, 1, 4);
        CHECKS.due("merged", x.merge(1, 2), 2);
        CHECKS.dueCandidates("with what it got", x, 2, 3, 4);
        CHECKS.dueCandidates("found by what it got", x, 4, 2);
        x.merge(3, 4);
        CHECKS.dueCandidates("by two keys but once", x, 2, 3);
        x.merge(2, 3);
        CHECKS.dueCandidates("not with what it has", x, 2);
        x.undo(2);
        x.undo(2);
        CHECKS.dueCandidates("by itself again", x, 1, 3);
        CHECKS.dueCandidates("and the other", x, 3, 1, 2);
    }

    private static void noSuchRecord() {
        CHECKS.sentence("8: NONE, and those before stay, if there is no such record");
        RecordMatch x = same(0, 0, 0);
        for (int record : Checks.notThere(3)) {
            CHECKS.due("none before", x.candidates(record), -1);
            CHECKS.dueFound("none before stay", x);
        }
        x.candidates(2);
        for (int record : Checks.notThere(3)) {
            CHECKS.due("candidates(" + record + ")", x.candidates(record), -1);
            CHECKS.dueFound("those before stay", x, 1, 3);
        }
    }

    private static void inAnother() {
        CHECKS.sentence("8: NONE, and those before stay, if it is in another one");
        RecordMatch x = same(0, 0, 9, 8, 7);
        x.merge(4, 5);
        x.merge(3, 4);
        CHECKS.dueCandidates("before", x, 1, 2, 3);
        for (int record = 4; record <= 5; record++) {
            CHECKS.due("in another", x.candidates(record), -1);
            CHECKS.dueFound("those before stay", x, 2, 3);
        }
        x.undo(3);
        CHECKS.dueCandidates("by itself again", x, 4, 1, 2, 3);
    }

    private static void fromZeroOn() {
        CHECKS.sentence("9: The i-th of these, from 0 on");
        RecordMatch x = same(0, 0, 0, 0);
        x.candidates(2);
        CHECKS.due("at(0)", x.at(0), 1);
        CHECKS.due("at(1)", x.at(1), 3);
        CHECKS.due("at(2)", x.at(2), 4);
        CHECKS.due("at(0) again", x.at(0), 1);
    }

    private static void noneSuch() {
        CHECKS.sentence("9: NONE if there is none such");
        RecordMatch x = same(0, 0, 0);
        x.record(0);
        CHECKS.due("none are asked for", x.at(0), -1);
        x.candidates(1);
        for (int i : new int[] {2, 3, -1, 39, 40, 41, 256, Integer.MAX_VALUE, Integer.MIN_VALUE}) {
            CHECKS.due("at(" + i + ")", x.at(i), -1);
        }
        CHECKS.due("the last", x.at(1), 3);
        x.candidates(4);
        CHECKS.due("none are found", x.at(0), -1);
        x.candidates(2);
        x.merge(1, 3);
        CHECKS.due("fewer", x.candidates(2), 1);
        CHECKS.due("none of those before", x.at(1), -1);
    }

    private static void askedAtThatTime() {
        CHECKS.sentence("9: these are those that candidates found");
        RecordMatch x = same(0, 0, 0);
        x.candidates(2);
        CHECKS.due("index asks for others", Checks.index(x, 1, 0), 3);
        CHECKS.dueFound("those before stay", x, 1, 3);
        x.merge(1, 3);
        Checks.put(x, x.record(0), 0, "same");
        CHECKS.dueFound("they are not asked for anew", x, 1, 3);
        CHECKS.dueCandidates("but by candidates", x, 2, 1, 4);
    }

    private static void howManyHave() {
        CHECKS.sentence("14: How many records have the i-th key of a record, from 0 on");
        RecordMatch x = Checks.records(5);
        Checks.put(x, 1, 0, "twos");
        Checks.put(x, 1, 2, "080442957X");
        Checks.put(x, 1, 0, "ones");
        Checks.put(x, 2, 2, "0-8044-2957-X");
        Checks.put(x, 3, 0, "twos");
        Checks.put(x, 3, 0, "twos");
        Checks.put(x, 4, 2, "9780804429573");
        CHECKS.due("twos", Checks.index(x, 1, 0), 2);
        CHECKS.due("the number", Checks.index(x, 1, 1), 3);
        CHECKS.due("ones, by itself alone", Checks.index(x, 1, 2), 1);
        CHECKS.due("another record's first", Checks.index(x, 4, 0), 3);
        CHECKS.due("all 40", Checks.index(same(new int[40]), 40, 0), 40);
    }

    private static void withOthersCountOnce() {
        CHECKS.sentence("14: records (by themselves or with others)");
        RecordMatch x = same(9, 8, 7, 6);
        CHECKS.due("four by themselves", Checks.index(x, 4, 0), 4);
        x.merge(1, 2);
        CHECKS.due("one with another", Checks.index(x, 4, 0), 3);
        CHECKS.due("asked by that", Checks.index(x, 1, 0), 3);
        x.merge(3, 4);
        CHECKS.due("two with others", Checks.index(x, 1, 0), 2);
        x.merge(1, 3);
        CHECKS.due("one with all", Checks.index(x, 1, 0), 1);
        x.undo(1);
        x.undo(1);
        CHECKS.due("three again", Checks.index(x, 2, 0), 3);
        RecordMatch y = Checks.ranked(2, 1, 0);
        Checks.put(y, 2, 0, "same");
        Checks.put(y, 3, 0, "same");
        y.merge(1, 2);
        CHECKS.due("one has it by another", Checks.index(y, 3, 0), 2);
    }

    private static void noRecordForIndex() {
        CHECKS.sentence("14: NONE if there is no such record");
        RecordMatch x = same(0, 0);
        for (int record : Checks.notThere(2)) {
            for (int i : new int[] {0, 1, -1, Integer.MAX_VALUE, Integer.MIN_VALUE}) {
                CHECKS.due("index(" + record + ", " + i + ")", Checks.index(x, record, i), -1);
            }
        }
    }

    private static void noSuchKey() {
        CHECKS.sentence("14: ArrayIndexOutOfBoundsException if it has no such key");
        RecordMatch x = same(0, 0);
        x.record(0);
        Checks.put(x, 2, 0, "other");
        for (int i : new int[] {1, 2, -1, 199, 200, 256, Integer.MAX_VALUE, Integer.MIN_VALUE}) {
            CHECKS.due("index(1, " + i + ")", Checks.index(x, 1, i), Checks.THROWN);
        }
        CHECKS.due("the last it has", Checks.index(x, 1, 0), 2);
        CHECKS.due("another one has more", Checks.index(x, 2, 1), 1);
        CHECKS.due("without fields", Checks.index(x, 3, 0), Checks.THROWN);
        Checks.put(x, 3, 0, "abc");
        CHECKS.due("without keys", Checks.index(x, 3, 0), Checks.THROWN);
    }

    private static void noKeyInAnother() {
        CHECKS.sentence("14: one that is in another has none at all");
        RecordMatch x = same(9, 8, 7);
        x.merge(2, 3);
        x.merge(1, 2);
        for (int record = 2; record <= 3; record++) {
            for (int i = -1; i <= 1; i++) {
                CHECKS.due("index(" + record + ", " + i + ")", Checks.index(x, record, i), Checks.THROWN);
            }
        }
        CHECKS.due("the one that has it", Checks.index(x, 1, 0), 1);
        x.undo(1);
        CHECKS.due("by itself again", Checks.index(x, 2, 0), 2);
        CHECKS.due("still in another", Checks.index(x, 3, 0), Checks.THROWN);
    }

    /** As many as an object's 512 calls leave room for. */
    private static void mostKeys() {
        CHECKS.sentence("14: the i-th key, of as many as come");
        RecordMatch x = Checks.records(1);
        for (int i = 0; i < 100; i++) {
            Checks.put(x, 1, 0, Integer.toString(1000 + i));
        }
        CHECKS.due("the last of 100", Checks.index(x, 1, 99), 1);
        CHECKS.due("none behind", Checks.index(x, 1, 100), Checks.THROWN);
        CHECKS.due("none before", Checks.index(x, 1, -1), Checks.THROWN);
    }
}
