/** The terms WORDS, NUMBER and PARTS, sentence by sentence; each of the 256 signs is asked for. */
public final class TextsTest {
    private static final Checks CHECKS = new Checks();

    public static void main(String[] args) {
        lettersAndDigits();
        lettersAsSmallOnes();
        longestRows();
        mostWords();
        allDigits();
        inTheirOrder();
        lastFour();
        zeroWithoutOne();
        parts();
        otherTagsAreNoParts();
        CHECKS.end("TextsTest");
    }

    private static boolean isDigit(int c) {
        return "0123456789".indexOf(c) >= 0;
    }

    private static boolean isInWord(int c) {
        return isDigit(c) || "ABCDEFGHIJKLMNOPQRSTUVWXYZabcdefghijklmnopqrstuvwxyz".indexOf(c) >= 0;
    }

    private static void lettersAndDigits() {
        CHECKS.sentence("WORDS of a text are rows of letters (A .. Z, a .. z) and digits");
        for (int c = 0; c <= 255; c++) {
            String joined = "a" + (char) c + "b";
            CHECKS.dueLike(0, joined, "a b", isInWord(c) ? 0 : 1, 1);
            CHECKS.dueLike(3, joined, "a b", isInWord(c) ? 0 : 1, 1);
        }
    }

    private static void lettersAsSmallOnes() {
        CHECKS.sentence("letters as small ones");
        for (char one = '0'; one <= 'z'; one++) {
            for (char other = one; isInWord(one) && other <= 'z'; other++) {
                boolean same = one == other || other - one == 'a' - 'A' && one >= 'A';
                if (isInWord(other)) {
                    CHECKS.dueLike(0, "" + one, "" + other, same ? 1 : 0, 1);
                }
            }
        }
        CHECKS.dueLike(3, "McGraw HILL", "mcgraw Hill", 1, 1);
    }

    private static void longestRows() {
        CHECKS.sentence("the longest rows");
        CHECKS.dueLike(0, "ab", "a b", 0, 1);
        CHECKS.dueLike(0, "ab", "abc", 0, 1);
        CHECKS.dueLike(0, "ab", "bab", 0, 1);
        CHECKS.dueLike(0, "abc", "xbc", 0, 1);
        CHECKS.dueLike(0, "abc", "axc", 0, 1);
        CHECKS.dueLike(0, "abc", "abx", 0, 1);
        CHECKS.dueLike(0, "a1b2", "a 1 b 2", 0, 1);
        CHECKS.dueLike(0, "a1b2", "A1B2", 1, 1);
        CHECKS.dueLike(0, "  ab--cd..", "cd ab", 1, 1);
        CHECKS.dueLike(0, "ab", ",ab", 1, 1);
        CHECKS.dueLike(0, "a".repeat(60), "a".repeat(60), 1, 1);
        CHECKS.dueLike(0, "a".repeat(60), "a".repeat(59), 0, 1);
        CHECKS.dueLike(0, "a".repeat(59) + "b", "a".repeat(60), 0, 1);
        CHECKS.dueLike(0, " ".repeat(59) + "b", "b", 1, 1);
        CHECKS.dueLike(0, "b" + " ".repeat(59), "b", 1, 1);
    }

    private static void mostWords() {
        CHECKS.sentence("WORDS, as many as 60 signs hold");
        String thirty = "a b c d e f g h i j k l m n o p q r s t u v w x y z 0 1 2 3";
        CHECKS.dueLike(0, thirty, "3", 1, 30);
        CHECKS.dueLike(0, thirty + " ", "a", 1, 30);
        CHECKS.dueLike(0, " " + thirty, "3", 1, 30);
        CHECKS.dueLike(0, thirty, thirty.toUpperCase(), 1, 1);
        CHECKS.dueLike(3, thirty, thirty.replace(' ', '.'), 1, 1);
        CHECKS.dueLike(3, thirty, thirty.replace('3', '4'), 0, 1);
        String others = "4 5 6 7 8 9 aa bb cc dd ee ff gg hh ii jj kk ll mm nn oo pp";
        CHECKS.dueLike(0, thirty, others, 0, 1);
        CHECKS.dueLike(0, thirty, others.replace("pp", "3"), 1, 51);
    }

    private static void allDigits() {
        CHECKS.sentence("A text's NUMBER is that of all its digits");
        for (int c = 0; c <= 255; c++) {
            CHECKS.dueLike(1, "1" + (char) c + "2", "12", isDigit(c) ? 0 : 1, 1);
        }
        for (char c = '0'; c <= '9'; c++) {
            CHECKS.dueLike(4, "" + c, "9", c == '0' ? 0 : (c - '0') / gcd(c - '0', 9), 9 / gcd(c - '0', 9));
        }
        CHECKS.dueLike(1, "c1 9/9-8.", "1998", 1, 1);
        CHECKS.dueLike(1, " ".repeat(59) + "7", "7", 1, 1);
    }

    private static int gcd(int one, int other) {
        return other == 0 ? one : gcd(other, one % other);
    }

    private static void inTheirOrder() {
        CHECKS.sentence("in their order");
        CHECKS.dueLike(1, "1998", "8991", 0, 1);
        CHECKS.dueLike(1, "12", "21", 0, 1);
        CHECKS.dueLike(4, "12", "21", 4, 7);
        CHECKS.dueLike(4, "1000", "1", 1, 1000);
    }

    private static void lastFour() {
        CHECKS.sentence("the last four");
        CHECKS.dueLike(1, "51998", "1998", 1, 1);
        CHECKS.dueLike(1, "19985", "1998", 0, 1);
        CHECKS.dueLike(1, "19985", "9985", 1, 1);
        CHECKS.dueLike(1, "1998, 2004", "2005", 1, 2);
        CHECKS.dueLike(1, "1998", "998", 0, 1);
        CHECKS.dueLike(1, "998", "99 8", 1, 1);
        CHECKS.dueLike(1, "0007", "7", 1, 1);
        CHECKS.dueLike(1, "10000", "0", 1, 1);
        CHECKS.dueLike(1, "10007", "7", 1, 1);
        CHECKS.dueLike(1, "9".repeat(60), "9999", 1, 1);
        CHECKS.dueLike(1, "9".repeat(56) + "1234", "1234", 1, 1);
        CHECKS.dueLike(4, "10300", "450", 2, 3);
        CHECKS.dueLike(4, "1", "9999", 1, 9999);
    }

    private static void zeroWithoutOne() {
        CHECKS.sentence("0 without one");
        for (String none : new String[] {"", "none", " ", "\u00b2", "X"}) {
            CHECKS.dueLike(1, none, "0", 1, 1);
            CHECKS.dueLike(1, none, "1", 1, 2);
            CHECKS.dueLike(1, none, "2", 0, 1);
            CHECKS.dueLike(4, none, "0", 1, 1);
            CHECKS.dueLike(4, none, "1", 0, 1);
        }
    }

    /** Each part is asked for by two texts that only that part takes for so like. */
    private static void parts() {
        CHECKS.sentence("PARTS are 0 .. 4, those of tags 0 (title), 1 (year), 2 (book number), 3 (publisher), 4 (pages)");
        CHECKS.dueLike(0, "a 1", "a 2", 1, 3);
        CHECKS.dueLike(1, "a 1", "a 2", 1, 2);
        CHECKS.dueLike(2, "a 1", "a 2", 0, 1);
        CHECKS.dueLike(3, "a 1", "a 2", 0, 1);
        CHECKS.dueLike(4, "a 1", "a 3", 1, 3);
        CHECKS.dueLike(2, "0306406152", "978 0306406157", 1, 1);
        CHECKS.dueLike(3, "0306406152", "978 0306406157", 0, 1);
        CHECKS.dueLike(3, "a 1", "A-1", 1, 1);
        CHECKS.dueLike(2, "a 1", "A-1", 0, 1);
    }

    private static void otherTagsAreNoParts() {
        CHECKS.sentence("PARTS are 0 .. 4: other tags are none");
        for (int tag = 5; tag <= 9; tag++) {
            CHECKS.dueLike(tag, "1", "1", Checks.THROWN, Checks.THROWN);
        }
        RecordMatch x = Checks.records(2);
        for (int tag = 4; tag <= 9; tag++) {
            Checks.put(x, 1, tag, "1");
            Checks.put(x, 2, tag, "3");
        }
        CHECKS.dueScore("pages alone", x, 1, 2, 1, 3);
    }
}
