/** Promises 8, 9 and 14: candidates, at and index, and what KEYS are. */
public final class CandidatesTest {
    private static final Checks CHECKS = new Checks();

    public static void main(String[] args) {
        titleKeys();
        mixedKeys();
        keysOfBothKindsAreApart();
        order();
        foundOnesStay();
        mergedOnes();
        wrongRecords();
        index();
        indexOfMerged();
        mostKeys();
        CHECKS.end("CandidatesTest");
    }

    private static RecordMatch of(int records) {
        RecordMatch x = new RecordMatch();
        for (int i = 0; i < records; i++) {
            x.record(0);
        }
        return x;
    }

    private static void dueTitles(String one, String other, boolean candidates) {
        RecordMatch x = of(2);
        Checks.put(x, 1, 0, one);
        Checks.put(x, 2, 0, other);
        CHECKS.due("'" + one + "' and '" + other + "'", x.candidates(1), candidates ? 1 : 0);
    }

    private static void titleKeys() {
        dueTitles("The great Wall", "great wall, the", true);
        dueTitles("The great Wall", "Wall, the great", false);
        dueTitles("GREAT", "greater", true);
        dueTitles("great", "grebe", false);
        dueTitles("great", "Xgreat", false);
        dueTitles("abcd", "ABCDe", true);
        dueTitles("abc", "abc", false);
        dueTitles("abc d", "abcd", false);
        dueTitles("a b c def", "def", false);
        dueTitles("", "", false);
        dueTitles("1984 a novel", "19845", true);
        dueTitles("1984", "1985", false);
        dueTitles("a-very b", "very!", true);
        dueTitles("abcd", "bbcd", false);
        dueTitles("abcd", "accd", false);
        dueTitles("abcd", "abdd", false);
        dueTitles("\u00e4abcd\u00e4", "abcd", true);
        dueTitles("- ".repeat(28) + "last", "LAST", true);
    }

    private static void mixedKeys() {
        RecordMatch x = of(6);
        Checks.put(x, 1, 0, "great wall");
        Checks.put(x, 1, 0, "small door");
        Checks.put(x, 1, 2, "0306406152");
        Checks.put(x, 2, 0, "smallest");
        Checks.put(x, 3, 2, "1");
        Checks.put(x, 3, 2, "9780306406157");
        Checks.put(x, 4, 1, "great wall");
        Checks.put(x, 4, 3, "great wall");
        Checks.put(x, 4, 4, "0306406152");
        Checks.put(x, 5, 0, "0306406152");
        CHECKS.dueCandidates("any of its keys", x, 1, 2, 3);
        CHECKS.dueCandidates("not by way of another", x, 2, 1);
        CHECKS.dueCandidates("by number", x, 3, 1);
        CHECKS.dueCandidates("other tags give none", x, 4);
        CHECKS.dueCandidates("a title of digits is no number", x, 5);
        CHECKS.dueCandidates("no fields", x, 6);
    }

    private static void keysOfBothKindsAreApart() {
        RecordMatch x = of(3);
        Checks.put(x, 1, 0, "0000 a");
        Checks.put(x, 2, 2, "0000000000000");
        Checks.put(x, 3, 0, "abc");
        CHECKS.dueCandidates("0000", x, 1);
        CHECKS.dueCandidates("the number 0", x, 2);
        CHECKS.due("the number 0 is a key", Checks.index(x, 2, 0), 1);
        CHECKS.dueCandidates("no key", x, 3);
        CHECKS.due("no key to ask", Checks.index(x, 3, 0), Checks.THROWN);
    }

    private static void order() {
        RecordMatch x = of(40);
        for (int record = 40; record >= 1; record--) {
            Checks.put(x, record, 0, "same");
        }
        CHECKS.due("all others", x.candidates(20), 39);
        for (int i = 0; i < 39; i++) {
            CHECKS.due("at(" + i + ")", x.at(i), i < 19 ? i + 1 : i + 2);
        }
        CHECKS.due("at(39)", x.at(39), -1);
        CHECKS.due("at(40)", x.at(40), -1);
        CHECKS.due("at(-1)", x.at(-1), -1);
        CHECKS.due("at the greatest int", x.at(Integer.MAX_VALUE), -1);
        CHECKS.due("at the least int", x.at(Integer.MIN_VALUE), -1);
        CHECKS.due("index", Checks.index(x, 1, 0), 40);
    }

    private static void foundOnesStay() {
        RecordMatch x = of(4);
        for (int record = 1; record <= 3; record++) {
            Checks.put(x, record, 0, "same");
        }
        CHECKS.dueCandidates("at first", x, 2, 1, 3);
        x.merge(1, 2);
        CHECKS.dueFound("after a merge", x, 1, 3);
        CHECKS.due("one in another", x.candidates(2), -1);
        CHECKS.due("no such record", x.candidates(9), -1);
        CHECKS.due("an index asked between", Checks.index(x, 1, 0), 2);
        CHECKS.dueFound("those before stay", x, 1, 3);
        CHECKS.dueCandidates("none takes their place", x, 4);
    }

    private static void mergedOnes() {
        RecordMatch x = of(4);
        Checks.put(x, 1, 0, "ones");
        Checks.put(x, 2, 0, "twos");
        Checks.put(x, 3, 0, "twos");
        Checks.put(x, 4, 0, "ones");
        CHECKS.dueCandidates("alone", x, 1, 4);
        x.merge(1, 2);
        CHECKS.dueCandidates("with what it got", x, 1, 3, 4);
        CHECKS.dueCandidates("found by what it got", x, 3, 1);
        x.merge(3, 4);
        CHECKS.dueCandidates("by two keys but once", x, 1, 3);
        x.merge(1, 3);
        CHECKS.dueCandidates("not with what it has", x, 1);
        x.undo(1);
        x.undo(1);
        CHECKS.dueCandidates("by itself again", x, 2, 3);
        CHECKS.dueCandidates("and the other", x, 1, 3);
    }

    private static void wrongRecords() {
        RecordMatch x = of(2);
        Checks.put(x, 1, 0, "same");
        Checks.put(x, 2, 0, "same");
        CHECKS.due("right", x.candidates(1), 1);
        for (int record : new int[] {0, -1, 3, 41, Integer.MAX_VALUE, Integer.MIN_VALUE}) {
            CHECKS.due("candidates(" + record + ")", x.candidates(record), -1);
            CHECKS.due("index(" + record + ", 0)", Checks.index(x, record, 0), -1);
            CHECKS.due("index(" + record + ", -1)", Checks.index(x, record, -1), -1);
            CHECKS.dueFound("those before stay", x, 2);
        }
    }

    private static void index() {
        RecordMatch x = of(4);
        Checks.put(x, 1, 0, "twos");
        Checks.put(x, 2, 2, "080442957X");
        Checks.put(x, 1, 2, "0804429571");
        Checks.put(x, 1, 2, "9780804429573");
        Checks.put(x, 1, 0, "TWOS again");
        Checks.put(x, 1, 2, "0-8044-2957-X");
        Checks.put(x, 1, 0, "ones");
        Checks.put(x, 3, 0, "twos");
        Checks.put(x, 3, 0, "twos");
        Checks.put(x, 4, 2, "9780804429573");
        CHECKS.due("twos", Checks.index(x, 1, 0), 2);
        CHECKS.due("the number", Checks.index(x, 1, 1), 3);
        CHECKS.due("ones", Checks.index(x, 1, 2), 1);
        CHECKS.due("each but once", Checks.index(x, 1, 3), Checks.THROWN);
        CHECKS.due("-1", Checks.index(x, 1, -1), Checks.THROWN);
        CHECKS.due("the greatest int", Checks.index(x, 1, Integer.MAX_VALUE), Checks.THROWN);
        CHECKS.due("the least int", Checks.index(x, 1, Integer.MIN_VALUE), Checks.THROWN);
    }

    private static void indexOfMerged() {
        RecordMatch x = of(3);
        Checks.put(x, 2, 0, "twos");
        Checks.put(x, 1, 0, "ones");
        Checks.put(x, 3, 0, "twos");
        CHECKS.due("before", Checks.index(x, 1, 0), 1);
        x.merge(1, 2);
        CHECKS.due("its keys in the order of fields", Checks.index(x, 1, 0), 2);
        CHECKS.due("then its own", Checks.index(x, 1, 1), 1);
        CHECKS.due("one in another has none", Checks.index(x, 2, 0), Checks.THROWN);
        x.merge(1, 3);
        CHECKS.due("one record with others counts once", Checks.index(x, 1, 0), 1);
        CHECKS.due("its keys but once", Checks.index(x, 1, 2), Checks.THROWN);
        x.undo(1);
        x.undo(1);
        CHECKS.due("by itself again", Checks.index(x, 2, 0), 2);
    }

    /** As many as an object's 512 calls leave room for. */
    private static void mostKeys() {
        RecordMatch x = of(1);
        for (int i = 0; i < 100; i++) {
            Checks.put(x, 1, 0, Integer.toString(1000 + i));
        }
        CHECKS.due("the last of 100", Checks.index(x, 1, 99), 1);
        CHECKS.due("none behind", Checks.index(x, 1, 100), Checks.THROWN);
    }
}
