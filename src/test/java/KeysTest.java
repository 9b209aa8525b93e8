/** The terms KEYS and CANDIDATES, sentence by sentence. */
public final class KeysTest {
    private static final Checks CHECKS = new Checks();

    public static void main(String[] args) {
        firstLongWord();
        fourSignsOrMore();
        withoutLongWord();
        firstFourSigns();
        smallLetters();
        rightNumbers();
        formsAreKeys();
        wrongNumbers();
        otherTags();
        ofEachField();
        orderOfFields();
        eachButOnce();
        kindsAreApart();
        growingTexts();
        keyInCommon();
        CHECKS.end("KeysTest");
    }

    /** Two records with a field of one tag each are candidates, both ways round, or are not. */
    private static void dueCommon(int tag, String one, String other, boolean want) {
        RecordMatch x = Checks.records(2);
        Checks.put(x, 1, tag, one);
        Checks.put(x, 2, tag, other);
        CHECKS.due("'" + one + "' with '" + other + "'", x.candidates(1), want ? 1 : 0);
        CHECKS.due("'" + other + "' with '" + one + "'", x.candidates(2), want ? 1 : 0);
    }

    /** The record has just so many keys. */
    private static void dueKeys(String what, RecordMatch x, int record, int want) {
        for (int i = 0; i < want; i++) {
            CHECKS.due(what + ", key " + i, Checks.index(x, record, i) > 0 ? 1 : 0, 1);
        }
        CHECKS.due(what + ", no key " + want, Checks.index(x, record, want), Checks.THROWN);
    }

    private static void firstLongWord() {
        CHECKS.sentence("KEYS of a record: of each of its fields with tag 0 the first word of 4 signs or more");
        dueCommon(0, "The great Wall", "great wall, the", true);
        dueCommon(0, "The great Wall", "Wall, the great", false);
        dueCommon(0, "wall greatest", "greatest wall", false);
        dueCommon(0, "great wall", "great door", true);
        dueCommon(0, "great wall", "small wall", false);
        dueCommon(0, "a wall greatest", "the wall", true);
        dueCommon(0, "a-very b", "very!", true);
        dueCommon(0, "- ".repeat(28) + "last", "LAST", true);
        dueCommon(0, "a b c d e f g h i j k l m n o p q r s t u v w x y z 0 last", "last", true);
        RecordMatch x = Checks.records(1);
        Checks.put(x, 1, 0, "great walls here");
        dueKeys("one field has one", x, 1, 1);
    }

    private static void fourSignsOrMore() {
        CHECKS.sentence("of 4 signs or more");
        dueCommon(0, "abc", "abc", false);
        dueCommon(0, "abcd", "abcd", true);
        dueCommon(0, "abcde", "abcde", true);
        dueCommon(0, "abc d", "abcd", false);
        dueCommon(0, "abc defg", "defg", true);
        dueCommon(0, "abcd efgh", "efgh", false);
        dueCommon(0, "abc\u00e4d", "abcd", false);
        dueCommon(0, "a".repeat(60), "aaaa", true);
    }

    private static void withoutLongWord() {
        CHECKS.sentence("if there is one");
        for (String title : new String[] {"", "abc", "a b c def 123 x", "????", "\u00e4\u00e4\u00e4\u00e4"}) {
            dueCommon(0, title, title, false);
            RecordMatch x = Checks.records(1);
            Checks.put(x, 1, 0, title);
            dueKeys("'" + title + "'", x, 1, 0);
            Checks.put(x, 1, 0, "later");
            dueKeys("'" + title + "' takes no place", x, 1, 1);
        }
    }

    private static void firstFourSigns() {
        CHECKS.sentence("its first 4 signs");
        dueCommon(0, "great", "greater", true);
        dueCommon(0, "great", "grea", true);
        dueCommon(0, "great", "greed", false);
        dueCommon(0, "great", "xgreat", false);
        dueCommon(0, "abcdx", "abcdy", true);
        String[] others = {"bbcd", "aacd", "abdd", "abcc", "abc0", "dcba", "bacd", "abdc"};
        for (String other : others) {
            dueCommon(0, "abcd", other, false);
        }
        dueCommon(0, "1984 a novel", "19845", true);
        dueCommon(0, "1984", "1985", false);
        dueCommon(0, "zzzz", "ZZZZ", true);
        dueCommon(0, "0000", "00000", true);
    }

    private static void smallLetters() {
        CHECKS.sentence("words have small letters, so keys have");
        dueCommon(0, "GREAT", "greater", true);
        dueCommon(0, "aZaZ", "AzAz", true);
    }

    private static void rightNumbers() {
        CHECKS.sentence("of each with tag 2, if that is right");
        RecordMatch x = Checks.records(1);
        Checks.put(x, 1, 2, "0306406152");
        dueKeys("one", x, 1, 1);
        Checks.put(x, 1, 2, "080442957X");
        dueKeys("two", x, 1, 2);
        dueCommon(2, "0000000000000", "0000000000000", true);
        dueCommon(2, "0000000000", "0000000000", true);
        dueCommon(2, "9999999999994", "9999999999994", true);
    }

    private static void formsAreKeys() {
        CHECKS.sentence("its FORM");
        dueCommon(2, "0306406152", "978-0306406157", true);
        dueCommon(2, "080442957x", "9780804429573", true);
        dueCommon(2, "0306406152", "0306406160", false);
        dueCommon(2, "9780306406157", "9790306406156", false);
        dueCommon(2, "0000000000", "0000000000000", false);
    }

    private static void wrongNumbers() {
        CHECKS.sentence("one that is not right gives no key");
        for (String number : new String[] {"", "0306406153", "abcd", "9780306406158", "030640615"}) {
            dueCommon(2, number, number, false);
            RecordMatch x = Checks.records(1);
            Checks.put(x, 1, 2, number);
            dueKeys("'" + number + "'", x, 1, 0);
            Checks.put(x, 1, 2, "0306406152");
            dueKeys("'" + number + "' takes no place", x, 1, 1);
        }
    }

    private static void otherTags() {
        CHECKS.sentence("with tag 0, with tag 2: others give no key");
        for (int tag = 0; tag <= 9; tag++) {
            dueCommon(tag, "great", "great", tag == 0);
            dueCommon(tag, "0306406152 a", "0306406152", tag == 0 || tag == 2);
        }
    }

    private static void ofEachField() {
        CHECKS.sentence("of each of its fields");
        RecordMatch x = Checks.ranked(1, 0, 0);
        Checks.put(x, 1, 0, "ones");
        Checks.put(x, 1, 2, "0306406152");
        Checks.put(x, 1, 0, "twos");
        Checks.put(x, 1, 2, "080442957X");
        dueKeys("its own", x, 1, 4);
        Checks.put(x, 2, 0, "three");
        Checks.put(x, 2, 2, "0000000000");
        dueKeys("those of another are not", x, 1, 4);
        x.merge(1, 2);
        dueKeys("those of one that it has are", x, 1, 6);
        dueKeys("one in another has none", x, 2, 0);
        dueKeys("one without fields has none", x, 3, 0);
    }

    /** Each key is had by another number of records, so that index tells which one it is. */
    private static void orderOfFields() {
        CHECKS.sentence("in the order of fields");
        RecordMatch x = Checks.ranked(9, 8, 0, 0, 0);
        Checks.put(x, 2, 2, "0306406152");
        Checks.put(x, 1, 0, "twos");
        Checks.put(x, 2, 0, "ones");
        Checks.put(x, 1, 2, "080442957X");
        Checks.put(x, 3, 0, "twos");
        for (int record = 3; record <= 4; record++) {
            Checks.put(x, record, 2, "9780306406157");
        }
        for (int record = 3; record <= 5; record++) {
            Checks.put(x, record, 2, "9780804429573");
        }
        x.merge(1, 2);
        CHECKS.due("had by three", Checks.index(x, 1, 0), 3);
        CHECKS.due("had by two", Checks.index(x, 1, 1), 2);
        CHECKS.due("had by one", Checks.index(x, 1, 2), 1);
        CHECKS.due("had by four", Checks.index(x, 1, 3), 4);
        CHECKS.due("no more", Checks.index(x, 1, 4), Checks.THROWN);
    }

    private static void eachButOnce() {
        CHECKS.sentence("each but once");
        RecordMatch x = Checks.ranked(9, 0, 0);
        Checks.put(x, 3, 0, "ones");
        Checks.put(x, 1, 0, "twos");
        Checks.put(x, 1, 0, "TWOS again");
        Checks.put(x, 1, 2, "0306406152");
        Checks.put(x, 1, 0, "ones");
        Checks.put(x, 1, 2, "978-0306406157");
        Checks.put(x, 1, 0, "twos");
        Checks.put(x, 2, 0, "twos");
        CHECKS.due("twos", Checks.index(x, 1, 0), 2);
        CHECKS.due("the number", Checks.index(x, 1, 1), 1);
        CHECKS.due("ones", Checks.index(x, 1, 2), 2);
        CHECKS.due("no more", Checks.index(x, 1, 3), Checks.THROWN);
        x.merge(1, 2);
        dueKeys("that of one that it has is the same", x, 1, 3);
    }

    private static void kindsAreApart() {
        CHECKS.sentence("a word of 4 signs is no FORM of 13");
        RecordMatch x = Checks.records(4);
        Checks.put(x, 1, 0, "9780306406157");
        Checks.put(x, 2, 2, "9780306406157");
        Checks.put(x, 3, 0, "0000");
        Checks.put(x, 4, 2, "0000000000000");
        for (int record = 1; record <= 4; record++) {
            CHECKS.dueCandidates("record " + record, x, record);
            dueKeys("record " + record, x, record, 1);
        }
    }

    private static void growingTexts() {
        CHECKS.sentence("KEYS are those of the texts as they are now");
        RecordMatch x = Checks.records(2);
        int title = Checks.put(x, 1, 0, "abc");
        int number = Checks.put(x, 1, 2, "030640615");
        Checks.put(x, 2, 0, "abcd");
        CHECKS.dueCandidates("three signs", x, 1);
        dueKeys("none yet", x, 1, 0);
        x.sign(title, 'd');
        CHECKS.dueCandidates("four signs", x, 1, 2);
        dueKeys("a title", x, 1, 1);
        x.sign(number, '2');
        dueKeys("and a number", x, 1, 2);
        x.sign(number, '2');
        dueKeys("a number no more", x, 1, 1);
    }

    private static void keyInCommon() {
        CHECKS.sentence("Two records are CANDIDATES if they have a key in common");
        RecordMatch x = Checks.records(5);
        Checks.put(x, 1, 0, "great wall");
        Checks.put(x, 1, 0, "small door");
        Checks.put(x, 1, 2, "0306406152");
        Checks.put(x, 2, 0, "other");
        Checks.put(x, 2, 0, "smallest");
        Checks.put(x, 3, 2, "1");
        Checks.put(x, 3, 2, "9780306406157");
        Checks.put(x, 4, 0, "other");
        CHECKS.dueCandidates("by any of them", x, 1, 2, 3);
        CHECKS.dueCandidates("by the last", x, 2, 1, 4);
        CHECKS.dueCandidates("by the number", x, 3, 1);
        CHECKS.dueCandidates("not by way of another", x, 4, 2);
        CHECKS.dueCandidates("two without any key have none in common", x, 5);
    }
}
