/** Promises 10, 12 and 13: merge, undo and locked, sentence by sentence. */
public final class MergesTest {
    private static final Checks CHECKS = new Checks();

    public static void main(String[] args) {
        higherRank();
        equalRanks();
        andWhatThatHad();
        fromNowOn();
        notThere();
        inAnother();
        theSame();
        bothLocked();
        latestMerge();
        latestOfThatRecord();
        withWhatItHadThen();
        nowNotBefore();
        fieldsAfterUndo();
        undoNotThere();
        undoInAnother();
        undoWithNone();
        longChain();
        mostOfOne();
        lockedOrNot();
        lockedNotThere();
        lockedInAnother();
        CHECKS.end("MergesTest");
    }

    private static void higherRank() {
        CHECKS.sentence("10: that of the higher rank has the other one: its number");
        int[][] ranks = {{1, 5}, {5, 1}, {-2, -1}, {-1, 1}, {0, 1}, {Integer.MIN_VALUE, Integer.MAX_VALUE},
            {Integer.MAX_VALUE, Integer.MIN_VALUE}, {Integer.MIN_VALUE, 1}, {Integer.MAX_VALUE, -1}};
        for (int[] two : ranks) {
            int winner = two[0] > two[1] ? 1 : 2;
            for (int first = 1; first <= 2; first++) {
                RecordMatch x = Checks.ranked(two);
                CHECKS.due("ranks " + two[0] + ", " + two[1], x.merge(first, 3 - first), winner);
                CHECKS.dueStanding("the higher", x, winner, true);
                CHECKS.dueStanding("the lower", x, 3 - winner, false);
            }
        }
    }

    private static void equalRanks() {
        CHECKS.sentence("10: of equal ones that of the lower number");
        for (int rank : new int[] {0, 3, -3, Integer.MAX_VALUE, Integer.MIN_VALUE}) {
            for (int first = 1; first <= 2; first++) {
                RecordMatch x = Checks.ranked(rank, rank);
                CHECKS.due("ranks " + rank, x.merge(first, 3 - first), 1);
                CHECKS.dueStanding("the lower number", x, 1, true);
                CHECKS.dueStanding("the higher number", x, 2, false);
            }
        }
        CHECKS.due("40 and 39", Checks.records(40).merge(40, 39), 39);
        CHECKS.due("2 and 10", Checks.records(40).merge(10, 2), 2);
    }

    private static void andWhatThatHad() {
        CHECKS.sentence("10: and what that had");
        RecordMatch x = Checks.ranked(3, 2, 4, 9);
        int inner = Checks.put(x, 2, 5, "inner");
        x.merge(1, 2);
        CHECKS.due("one with others goes into another", x.merge(1, 3), 3);
        CHECKS.due("which has all of them", x.winner(3, inner), inner);
        CHECKS.dueStanding("merged", x, 1, false);
        CHECKS.dueStanding("merged", x, 2, false);
        CHECKS.due("a record keeps its own rank", x.merge(3, 4), 4);
        CHECKS.due("and the next has all", x.winner(4, inner), inner);
        CHECKS.due("and the one before none", x.winner(3, inner), 0);
    }

    private static void fromNowOn() {
        CHECKS.sentence("10: from now on");
        RecordMatch x = Checks.ranked(2, 1);
        int first = x.field(1, 5);
        int second = x.field(2, 6);
        CHECKS.due("not yet", x.winner(1, second), 0);
        x.merge(2, 1);
        CHECKS.due("now", x.winner(1, second), second);
        CHECKS.due("its own too", x.winner(1, first), first);
        int third = x.field(1, 6);
        x.sign(third, 'a');
        CHECKS.due("and later", x.winner(1, second), third);
    }

    private static void notThere() {
        CHECKS.sentence("10: 0, and nothing happens, if one is not there");
        RecordMatch x = Checks.ranked(3, 2);
        for (int record : Checks.notThere(2)) {
            CHECKS.due("no first", x.merge(record, 1), 0);
            CHECKS.due("no second", x.merge(2, record), 0);
            CHECKS.due("neither", x.merge(record, record), 0);
        }
        for (int record = 1; record <= 2; record++) {
            CHECKS.dueStanding("nothing happened", x, record, true);
            CHECKS.due("nothing is had", x.undo(record), 0);
        }
        x.record(9);
        CHECKS.dueStanding("nor later", x, 3, true);
    }

    private static void inAnother() {
        CHECKS.sentence("10: 0, and nothing happens, if one is in another one");
        RecordMatch x = Checks.ranked(3, 2, 1, 9);
        x.merge(2, 3);
        x.merge(1, 2);
        int[][] refused = {{1, 2}, {2, 1}, {1, 3}, {3, 1}, {2, 3}, {3, 2}, {2, 4}, {4, 2}, {3, 4}, {4, 3}, {2, 2}};
        for (int[] two : refused) {
            CHECKS.due("merge(" + two[0] + ", " + two[1] + ")", x.merge(two[0], two[1]), 0);
        }
        CHECKS.due("4 has none", x.undo(4), 0);
        CHECKS.due("1 has one", x.undo(1), 1);
        CHECKS.due("and no more", x.undo(1), 0);
        CHECKS.due("2 has one", x.undo(2), 1);
        CHECKS.due("and no more", x.undo(2), 0);
        CHECKS.due("by itself again", x.merge(3, 4), 4);
    }

    private static void theSame() {
        CHECKS.sentence("10: 0, and nothing happens, if they are the same");
        RecordMatch x = Checks.ranked(3, 2);
        CHECKS.due("alone", x.merge(1, 1), 0);
        CHECKS.due("nothing is had", x.undo(1), 0);
        CHECKS.dueStanding("nothing happened", x, 1, true);
        x.merge(1, 2);
        CHECKS.due("with another", x.merge(1, 1), 0);
        CHECKS.due("one merge", x.undo(1), 1);
        CHECKS.due("and no more", x.undo(1), 0);
        x.locked(1, true);
        CHECKS.due("locked", x.merge(1, 1), 0);
        CHECKS.dueStanding("nothing happened", x, 1, true);
    }

    private static void bothLocked() {
        CHECKS.sentence("10: 0, and nothing happens, if both are locked");
        for (int locks = 0; locks < 4; locks++) {
            for (int first = 1; first <= 2; first++) {
                RecordMatch x = Checks.ranked(1, 2);
                x.locked(1, (locks & 1) != 0);
                x.locked(2, (locks & 2) != 0);
                CHECKS.due("locks " + locks, x.merge(first, 3 - first), locks == 3 ? 0 : 2);
                CHECKS.dueStanding("locks " + locks, x, 1, locks == 3);
                CHECKS.dueStanding("locks " + locks, x, 2, true);
                CHECKS.due("locks " + locks + ", to undo", x.undo(2), locks == 3 ? 0 : 1);
            }
        }
        RecordMatch y = Checks.ranked(3, 2, 1);
        y.locked(2, true);
        y.locked(3, true);
        CHECKS.due("one is", y.merge(1, 2), 1);
        CHECKS.due("what it has does not lock it", y.merge(1, 3), 1);
        y.undo(1);
        y.undo(1);
        CHECKS.due("they are locked still", y.merge(2, 3), 0);
        y.locked(3, false);
        CHECKS.due("one is no more", y.merge(2, 3), 2);
    }

    private static void latestMerge() {
        CHECKS.sentence("12: The latest merge by which a record has what it has is undone: 1");
        RecordMatch x = Checks.ranked(1, 2, 3, 9);
        x.merge(4, 1);
        x.merge(3, 4);
        x.merge(4, 2);
        int[] latestFirst = {2, 3, 1};
        for (int i = 0; i < latestFirst.length; i++) {
            CHECKS.due("undo", x.undo(4), 1);
            for (int j = 0; j < latestFirst.length; j++) {
                CHECKS.dueStanding("undone " + (i + 1), x, latestFirst[j], j <= i);
            }
        }
        x.merge(4, 2);
        x.merge(4, 1);
        x.undo(4);
        x.merge(4, 3);
        CHECKS.due("after another", x.undo(4), 1);
        CHECKS.dueStanding("3 was the latest", x, 3, true);
        CHECKS.dueStanding("2 came before", x, 2, false);
        CHECKS.dueStanding("1 was undone before", x, 1, true);
    }

    private static void latestOfThatRecord() {
        CHECKS.sentence("12: by which a record has what it has");
        RecordMatch x = Checks.ranked(9, 1, 8, 2);
        x.merge(1, 2);
        x.merge(3, 4);
        CHECKS.due("a later merge of another record stays", x.undo(1), 1);
        CHECKS.dueStanding("undone", x, 2, true);
        CHECKS.dueStanding("not undone", x, 4, false);
        x.merge(1, 3);
        x.merge(1, 2);
        x.undo(1);
        CHECKS.due("that of 3, not that of 4", x.undo(1), 1);
        CHECKS.dueStanding("undone", x, 3, true);
        CHECKS.dueStanding("not undone", x, 4, false);
        CHECKS.due("that of 4 is not by 1", x.undo(1), 0);
        CHECKS.due("but by 3", x.undo(3), 1);
        CHECKS.dueStanding("undone", x, 4, true);
    }

    private static void withWhatItHadThen() {
        CHECKS.sentence("12: the record that it got is by itself again, with what that had then");
        RecordMatch x = Checks.ranked(9, 8, 7, 6, 5);
        int deepest = x.field(5, 5);
        x.merge(3, 4);
        x.merge(3, 5);
        x.merge(1, 2);
        x.merge(1, 3);
        CHECKS.due("deep within", x.winner(1, deepest), deepest);
        CHECKS.due("the latest", x.undo(1), 1);
        CHECKS.dueStanding("by itself", x, 3, true);
        CHECKS.dueStanding("still in it", x, 4, false);
        CHECKS.dueStanding("still in it", x, 5, false);
        CHECKS.dueStanding("still in 1", x, 2, false);
        CHECKS.due("its field is of 3", x.winner(3, deepest), deepest);
        CHECKS.due("and not of 1", x.winner(1, deepest), 0);
        CHECKS.due("3 gives its latest", x.undo(3), 1);
        CHECKS.dueStanding("the latest", x, 5, true);
        CHECKS.dueStanding("the one before", x, 4, false);
        CHECKS.due("then the one before", x.undo(3), 1);
        CHECKS.dueStanding("the one before", x, 4, true);
        CHECKS.due("then none", x.undo(3), 0);
        CHECKS.due("1 has 2", x.undo(1), 1);
        CHECKS.due("and none before", x.undo(1), 0);
    }

    private static void nowNotBefore() {
        CHECKS.sentence("12: had then, at that merge and not at an earlier one");
        RecordMatch x = Checks.ranked(9, 8, 7);
        x.merge(1, 2);
        x.undo(1);
        x.merge(2, 3);
        x.merge(1, 2);
        x.undo(1);
        CHECKS.dueStanding("got since", x, 3, false);
        CHECKS.due("2 has it", x.undo(2), 1);
        CHECKS.dueStanding("given back", x, 3, true);
        x.merge(1, 2);
        x.undo(1);
        CHECKS.dueStanding("given back before", x, 3, true);
        CHECKS.due("2 has none", x.undo(2), 0);
        x.merge(1, 3);
        x.merge(1, 2);
        x.undo(1);
        CHECKS.dueStanding("had by 1 itself", x, 3, false);
        CHECKS.due("and not by 2", x.undo(2), 0);
    }

    private static void fieldsAfterUndo() {
        CHECKS.sentence("12: each has its own fields again");
        RecordMatch x = Checks.ranked(2, 1);
        int first = x.field(1, 5);
        int second = x.field(2, 5);
        x.merge(1, 2);
        int later = x.field(1, 6);
        Checks.type(x, second, "longer");
        x.undo(1);
        CHECKS.due("its own", x.winner(1, first), first);
        CHECKS.due("the other one's own", x.winner(2, second), second);
        CHECKS.due("no more of it", x.winner(1, second), 0);
        CHECKS.due("a field that came later stays", x.winner(1, later), later);
        CHECKS.due("and does not go", x.winner(2, later), 0);
    }

    private static void undoNotThere() {
        CHECKS.sentence("12: 0 if there is no such record");
        RecordMatch x = Checks.ranked(2, 1);
        x.merge(1, 2);
        for (int record : Checks.notThere(2)) {
            CHECKS.due("undo(" + record + ")", x.undo(record), 0);
        }
        CHECKS.dueStanding("nothing happened", x, 2, false);
    }

    private static void undoInAnother() {
        CHECKS.sentence("12: 0 if it is in another one");
        RecordMatch x = Checks.ranked(3, 2, 1);
        x.merge(2, 3);
        x.merge(1, 2);
        CHECKS.due("it has one, and is in another", x.undo(2), 0);
        CHECKS.due("it has none, and is in another", x.undo(3), 0);
        CHECKS.dueStanding("nothing happened", x, 2, false);
        x.undo(1);
        CHECKS.dueStanding("nothing happened in it", x, 3, false);
        CHECKS.due("by itself again", x.undo(2), 1);
    }

    private static void undoWithNone() {
        CHECKS.sentence("12: 0 if it has none");
        RecordMatch x = Checks.ranked(3, 2, 1);
        CHECKS.due("alone", x.undo(1), 0);
        x.merge(1, 2);
        CHECKS.due("alone, while another is not", x.undo(3), 0);
        CHECKS.due("has one", x.undo(1), 1);
        CHECKS.due("has none any more", x.undo(1), 0);
        CHECKS.due("nor has the one it got", x.undo(2), 0);
        CHECKS.due("they can be merged again", x.merge(1, 2), 1);
        CHECKS.due("and undone again", x.undo(1), 1);
    }

    private static void longChain() {
        CHECKS.sentence("12: with what that had then, forty deep");
        RecordMatch x = new RecordMatch();
        for (int record = 1; record <= 40; record++) {
            x.record(record);
            x.field(record, 7);
        }
        for (int record = 1; record < 40; record++) {
            CHECKS.due("into the next", x.merge(record, record + 1), record + 1);
        }
        x.sign(1, 'a');
        CHECKS.due("the innermost one's field", x.winner(40, 40), 1);
        for (int record = 40; record > 1; record--) {
            CHECKS.due("the inner field", x.winner(record, record), 1);
            CHECKS.due("out of " + record, x.undo(record), 1);
            CHECKS.due("no more", x.undo(record), 0);
            CHECKS.due("its own field again", x.winner(record, record), record);
        }
    }

    private static void mostOfOne() {
        CHECKS.sentence("12: the latest merge, of 39");
        RecordMatch x = Checks.records(40);
        for (int record = 2; record <= 40; record++) {
            CHECKS.due("into the first", x.merge(record, 1), 1);
        }
        for (int record = 40; record >= 2; record--) {
            CHECKS.dueStanding("not yet", x, record, false);
            CHECKS.due("out of the first", x.undo(1), 1);
            CHECKS.dueStanding("now", x, record, true);
        }
        CHECKS.due("no more", x.undo(1), 0);
    }

    private static void lockedOrNot() {
        CHECKS.sentence("13: A record is locked, or not: 1 if it was before, else 0");
        RecordMatch x = Checks.records(2);
        CHECKS.due("a new one is not", x.locked(1, true), 0);
        CHECKS.due("it was", x.locked(1, true), 1);
        CHECKS.due("the other is not", x.locked(2, false), 0);
        CHECKS.due("it was still", x.locked(1, false), 1);
        CHECKS.due("it was not", x.locked(1, false), 0);
        CHECKS.due("nor then", x.locked(1, true), 0);
    }

    private static void lockedNotThere() {
        CHECKS.sentence("13: NONE if there is no such record");
        RecordMatch x = Checks.records(2);
        for (int record : Checks.notThere(2)) {
            CHECKS.due("locked(" + record + ", true)", x.locked(record, true), -1);
            CHECKS.due("locked(" + record + ", false)", x.locked(record, false), -1);
        }
        for (int record = 1; record <= 2; record++) {
            CHECKS.due("none became locked", x.locked(record, true), 0);
        }
        for (int record : Checks.notThere(2)) {
            x.locked(record, false);
        }
        for (int record = 1; record <= 2; record++) {
            CHECKS.due("none was let go", x.locked(record, true), 1);
        }
    }

    private static void lockedInAnother() {
        CHECKS.sentence("13: one in another is there");
        RecordMatch x = Checks.ranked(3, 2, 1);
        x.locked(2, true);
        x.merge(1, 2);
        CHECKS.due("it was before", x.locked(2, true), 1);
        CHECKS.due("the one that has it was not", x.locked(1, false), 0);
        CHECKS.due("it can be let go", x.locked(2, false), 1);
        CHECKS.due("and locked again", x.locked(2, true), 0);
        x.locked(1, true);
        CHECKS.due("a locked one gives back", x.undo(1), 1);
        CHECKS.due("both stay locked", x.merge(1, 2), 0);
        CHECKS.due("the first", x.locked(1, true), 1);
        CHECKS.due("the second", x.locked(2, true), 1);
    }
}
