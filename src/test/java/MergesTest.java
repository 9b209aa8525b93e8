/** Promises 10 to 13: merge, winner, undo and locked. */
public final class MergesTest {
    private static final Checks CHECKS = new Checks();

    public static void main(String[] args) {
        whoHasWhom();
        wrongMerges();
        locks();
        winners();
        winnersOfMerged();
        undoes();
        undoGivesBackWhatItHad();
        longChain();
        CHECKS.end("MergesTest");
    }

    private static RecordMatch ranked(int... ranks) {
        RecordMatch x = new RecordMatch();
        for (int rank : ranks) {
            x.record(rank);
        }
        return x;
    }

    private static void whoHasWhom() {
        CHECKS.due("the higher rank", ranked(1, 5).merge(1, 2), 2);
        CHECKS.due("the higher rank, behind", ranked(1, 5).merge(2, 1), 2);
        CHECKS.due("the higher rank, first", ranked(5, 1).merge(2, 1), 1);
        CHECKS.due("equal ranks", ranked(3, 3).merge(1, 2), 1);
        CHECKS.due("equal ranks, behind", ranked(3, 3).merge(2, 1), 1);
        CHECKS.due("ranks far apart", ranked(Integer.MIN_VALUE, Integer.MAX_VALUE).merge(1, 2), 2);
        CHECKS.due("ranks far apart, first", ranked(Integer.MAX_VALUE, Integer.MIN_VALUE).merge(1, 2), 1);
        CHECKS.due("ranks below 0", ranked(-2, -1).merge(1, 2), 2);
        RecordMatch x = ranked(1, 9, 5);
        x.merge(1, 2);
        CHECKS.due("a record keeps its own rank", x.merge(3, 2), 2);
        RecordMatch y = ranked(3, 2, 4);
        y.merge(1, 2);
        CHECKS.due("one with others goes into another", y.merge(1, 3), 3);
        CHECKS.due("which has all of them", y.field(3, 0), 1);
        CHECKS.due("none is left", y.field(1, 0) + y.field(2, 0), 0);
    }

    private static void wrongMerges() {
        RecordMatch x = ranked(3, 2, 1);
        for (int record : new int[] {0, -1, 4, 41, Integer.MAX_VALUE, Integer.MIN_VALUE}) {
            CHECKS.due("no first", x.merge(record, 1), 0);
            CHECKS.due("no second", x.merge(1, record), 0);
            CHECKS.due("neither", x.merge(record, record), 0);
        }
        CHECKS.due("the same", x.merge(1, 1), 0);
        CHECKS.due("nothing happened", x.undo(1), 0);
        CHECKS.due("right", x.merge(1, 2), 1);
        CHECKS.due("again", x.merge(1, 2), 0);
        CHECKS.due("one in another", x.merge(2, 3), 0);
        CHECKS.due("one in another, behind", x.merge(3, 2), 0);
        CHECKS.due("one merge to undo", x.undo(1), 1);
        CHECKS.due("and no more", x.undo(1), 0);
    }

    private static void locks() {
        RecordMatch x = ranked(3, 2, 1);
        CHECKS.due("not before", x.locked(1, true), 0);
        CHECKS.due("before", x.locked(1, true), 1);
        CHECKS.due("before, now not", x.locked(1, false), 1);
        CHECKS.due("not before, now not", x.locked(1, false), 0);
        for (int record : new int[] {0, -1, 4, 41, Integer.MAX_VALUE, Integer.MIN_VALUE}) {
            CHECKS.due("locked(" + record + ")", x.locked(record, true), -1);
        }
        x.locked(1, true);
        x.locked(2, true);
        CHECKS.due("both are locked", x.merge(1, 2), 0);
        CHECKS.due("both are locked, behind", x.merge(2, 1), 0);
        CHECKS.due("one is locked", x.merge(1, 3), 1);
        CHECKS.due("one in another can be locked", x.locked(3, true), 0);
        CHECKS.due("and tells so", x.locked(3, true), 1);
        CHECKS.due("a locked one gives back", x.undo(1), 1);
        CHECKS.due("and stays locked", x.merge(1, 3), 0);
        x.locked(1, false);
        CHECKS.due("the lower one is locked", x.merge(1, 3), 1);
        CHECKS.due("what it has does not lock it", x.merge(1, 2), 1);
    }

    private static void winners() {
        RecordMatch x = ranked(1, 2);
        int a = Checks.put(x, 1, 0, "ab");
        int b = Checks.put(x, 1, 0, "abc");
        int c = Checks.put(x, 1, 0, "xyz");
        int d = Checks.put(x, 1, 9, "longest");
        int e = Checks.put(x, 2, 0, "longest");
        CHECKS.due("the longest, of those the lowest", x.winner(1, a), b);
        CHECKS.due("asked by itself", x.winner(1, b), b);
        CHECKS.due("asked by the last", x.winner(1, c), b);
        CHECKS.due("another tag", x.winner(1, d), d);
        CHECKS.due("another record's field", x.winner(1, e), 0);
        CHECKS.due("a field of another record", x.winner(2, a), 0);
        for (int wrong : new int[] {0, -1, 6, 201, Integer.MAX_VALUE, Integer.MIN_VALUE}) {
            CHECKS.due("no such field", x.winner(1, wrong), 0);
            CHECKS.due("no such record", x.winner(wrong, a), 0);
        }
        x.sign(a, ' ');
        CHECKS.due("any sign counts", x.winner(1, c), a);
    }

    private static void winnersOfMerged() {
        RecordMatch x = ranked(2, 1, 9, 9);
        int low = Checks.put(x, 2, 5, "abc");
        int high = Checks.put(x, 1, 5, "xyz");
        int other = Checks.put(x, 1, 6, "xyzxyz");
        x.merge(1, 2);
        CHECKS.due("the highest rank", x.winner(1, low), high);
        CHECKS.due("asked by itself", x.winner(1, high), high);
        CHECKS.due("one in another", x.winner(2, low), 0);
        int second = Checks.put(x, 4, 5, "ghi");
        int third = Checks.put(x, 3, 5, "def");
        x.merge(3, 4);
        x.merge(1, 3);
        CHECKS.due("of equal ranks the lowest field", x.winner(3, low), second);
        x.sign(low, 'd');
        CHECKS.due("the longest first", x.winner(3, third), low);
        CHECKS.due("of another tag", x.winner(3, other), other);
        x.undo(3);
        CHECKS.due("by itself again", x.winner(1, high), low);
        CHECKS.due("no more a field of it", x.winner(3, high), 0);
    }

    private static void undoes() {
        RecordMatch x = ranked(9, 1, 2, 3);
        for (int record : new int[] {0, -1, 5, 41, Integer.MAX_VALUE, Integer.MIN_VALUE}) {
            CHECKS.due("undo(" + record + ")", x.undo(record), 0);
        }
        CHECKS.due("it has none", x.undo(1), 0);
        x.merge(1, 2);
        x.merge(1, 4);
        x.merge(1, 3);
        CHECKS.due("one in another", x.undo(2), 0);
        CHECKS.due("the latest", x.undo(1), 1);
        CHECKS.due("is 3", x.locked(3, false) + x.field(3, 0), 1);
        CHECKS.due("not 4", x.field(4, 0), 0);
        x.merge(1, 3);
        CHECKS.due("3 again", x.undo(1), 1);
        CHECKS.due("then 4", x.undo(1), 1);
        CHECKS.due("is by itself", x.field(4, 0), 2);
        CHECKS.due("2 is not", x.field(2, 0), 0);
        CHECKS.due("then 2", x.undo(1), 1);
        CHECKS.due("is by itself too", x.field(2, 0), 3);
        CHECKS.due("none is left", x.undo(1), 0);
    }

    private static void undoGivesBackWhatItHad() {
        RecordMatch x = ranked(4, 3, 2, 1);
        x.merge(3, 4);
        x.merge(1, 2);
        x.merge(1, 3);
        CHECKS.due("one deep within", x.field(4, 0), 0);
        CHECKS.due("the latest", x.undo(1), 1);
        CHECKS.due("3 is by itself", x.field(3, 0), 1);
        CHECKS.due("with 4 in it", x.field(4, 0), 0);
        CHECKS.due("and 1 with 2", x.field(2, 0), 0);
        CHECKS.due("3 has 4", x.undo(3), 1);
        CHECKS.due("4 is by itself", x.field(4, 0), 2);
        CHECKS.due("3 has none", x.undo(3), 0);
        CHECKS.due("3 into 2 must wait", x.merge(2, 3), 0);
        CHECKS.due("1 has 2", x.undo(1), 1);
        CHECKS.due("3 into 2", x.merge(2, 3), 2);
        CHECKS.due("1 has none", x.undo(1), 0);
        int field = x.field(2, 7);
        x.undo(2);
        CHECKS.due("a later field stays where it came", x.winner(2, field), field);
    }

    private static void longChain() {
        RecordMatch x = new RecordMatch();
        for (int record = 1; record <= 40; record++) {
            x.record(record);
            x.field(record, 7);
        }
        for (int record = 1; record < 40; record++) {
            CHECKS.due("into the next", x.merge(record, record + 1), record + 1);
        }
        x.sign(1, 'a');
        CHECKS.due("the innermost one's field", x.winner(40, 40), 1);
        for (int record = 40; record > 1; record--) {
            CHECKS.due("out of " + record, x.undo(record), 1);
            CHECKS.due("no more", x.undo(record), 0);
            CHECKS.due("its own field again", x.winner(record, record), record);
        }
    }
}
