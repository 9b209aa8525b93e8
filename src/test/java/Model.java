import java.math.BigInteger;
import java.util.ArrayDeque;
import java.util.ArrayList;
import java.util.Deque;
import java.util.HashMap;
import java.util.LinkedHashSet;
import java.util.List;
import java.util.Locale;
import java.util.Map;
import java.util.Set;
import java.util.TreeSet;

/** The document said a second time, with the Java library and no thought of cost; it shares no code with the class. */
final class Model {
    private static final class Merge {
        final int got;
        final Set<Integer> with;

        Merge(int got, Set<Integer> with) {
            this.got = got;
            this.with = with;
        }
    }

    private final List<Integer> ranks = new ArrayList<>();
    private final Set<Integer> lockedOnes = new TreeSet<>();
    /** Who stands by itself, with all that it has, itself too. */
    private final Map<Integer, Set<Integer>> standing = new HashMap<>();
    private final Map<Integer, Deque<Merge>> merges = new HashMap<>();
    private final List<StringBuilder> texts = new ArrayList<>();
    private final List<int[]> fields = new ArrayList<>();
    private final BigInteger[][] weights = new BigInteger[5][];
    private List<Integer> found = List.of();

    Model() {
        for (int part = 0; part < 5; part++) {
            weights[part] = new BigInteger[] {BigInteger.ONE, BigInteger.ONE};
        }
    }

    int record(int rank) {
        if (ranks.size() == 40) {
            return 0;
        }
        ranks.add(rank);
        int number = ranks.size();
        standing.put(number, new TreeSet<>(Set.of(number)));
        merges.put(number, new ArrayDeque<>());
        return number;
    }

    int field(int record, int tag) {
        if (!standing.containsKey(record) || tag < 0 || tag > 9 || texts.size() == 200) {
            return 0;
        }
        fields.add(new int[] {record, tag});
        texts.add(new StringBuilder());
        return texts.size();
    }

    void sign(int field, int c) {
        if (field >= 1 && field <= texts.size() && texts.get(field - 1).length() < 60) {
            texts.get(field - 1).append((char) (c & 0xff));
        }
    }

    int isbn(int record, int i) {
        List<Integer> numbers = fieldsOf(record, 2);
        if (i < 0 || i >= numbers.size()) {
            return -1;
        }
        return form(text(numbers.get(i))) == null ? 0 : 1;
    }

    int weight(int part, long up, long down) {
        if (part < 0 || part > 4 || up < 0 || up > 100 || down < 1 || down > 10) {
            return 0;
        }
        weights[part] = new BigInteger[] {BigInteger.valueOf(up), BigInteger.valueOf(down)};
        return 1;
    }

    long score(int a, int b, int side) {
        if (!standing.containsKey(a) || !standing.containsKey(b)) {
            return -1;
        }
        BigInteger[] sum = fraction(0, 1);
        BigInteger[] whole = fraction(0, 1);
        for (int part = 0; part < 5; part++) {
            List<Integer> one = fieldsOf(a, part);
            List<Integer> other = fieldsOf(b, part);
            if (!one.isEmpty() && !other.isEmpty()) {
                BigInteger[] like = like(part, text(one.get(0)), text(other.get(0)));
                sum = plus(sum, new BigInteger[] {like[0].multiply(weights[part][0]),
                    like[1].multiply(weights[part][1])});
                whole = plus(whole, weights[part]);
            }
        }
        if (whole[0].signum() == 0) {
            return Checks.THROWN;
        }
        BigInteger above = sum[0].multiply(whole[1]);
        BigInteger below = sum[1].multiply(whole[0]);
        BigInteger common = above.gcd(below);
        return (side == 0 ? above : below).divide(common).longValueExact();
    }

    int candidates(int record) {
        if (!standing.containsKey(record)) {
            return -1;
        }
        List<Integer> now = new ArrayList<>();
        for (int other : new TreeSet<>(standing.keySet())) {
            Set<String> common = keys(record);
            common.retainAll(keys(other));
            if (other != record && !common.isEmpty()) {
                now.add(other);
            }
        }
        found = now;
        return now.size();
    }

    int at(int i) {
        return i < 0 || i >= found.size() ? -1 : found.get(i);
    }

    int merge(int a, int b) {
        if (a == b || !standing.containsKey(a) || !standing.containsKey(b)
                || lockedOnes.contains(a) && lockedOnes.contains(b)) {
            return 0;
        }
        long rankA = ranks.get(a - 1);
        long rankB = ranks.get(b - 1);
        int to = rankA == rankB ? Math.min(a, b) : rankA > rankB ? a : b;
        int from = a + b - to;
        Set<Integer> with = standing.remove(from);
        merges.get(to).push(new Merge(from, with));
        standing.get(to).addAll(with);
        return to;
    }

    int winner(int record, int field) {
        if (field < 1 || field > texts.size()) {
            return 0;
        }
        List<Integer> all = fieldsOf(record, fields.get(field - 1)[1]);
        if (!all.contains(field)) {
            return 0;
        }
        all.sort((f, g) -> {
            int byLength = Integer.compare(text(g).length(), text(f).length());
            int byRank = Integer.compare(rankOfField(g), rankOfField(f));
            return byLength != 0 ? byLength : byRank != 0 ? byRank : Integer.compare(f, g);
        });
        return all.get(0);
    }

    int undo(int record) {
        if (!standing.containsKey(record) || merges.get(record).isEmpty()) {
            return 0;
        }
        Merge last = merges.get(record).pop();
        standing.get(record).removeAll(last.with);
        standing.put(last.got, last.with);
        return 1;
    }

    int locked(int record, boolean on) {
        if (record < 1 || record > ranks.size()) {
            return -1;
        }
        boolean before = lockedOnes.contains(record);
        if (on) {
            lockedOnes.add(record);
        } else {
            lockedOnes.remove(record);
        }
        return before ? 1 : 0;
    }

    long index(int record, int i) {
        if (record < 1 || record > ranks.size()) {
            return -1;
        }
        List<String> own = new ArrayList<>(keys(record));
        if (i < 0 || i >= own.size()) {
            return Checks.THROWN;
        }
        return standing.keySet().stream().filter(other -> keys(other).contains(own.get(i))).count();
    }

    private String text(int field) {
        return texts.get(field - 1).toString();
    }

    private int rankOfField(int field) {
        return ranks.get(fields.get(field - 1)[0] - 1);
    }

    private List<Integer> fieldsOf(int record, int tag) {
        List<Integer> all = new ArrayList<>();
        for (int field = 1; field <= texts.size(); field++) {
            int[] one = fields.get(field - 1);
            if (one[1] == tag && standing.getOrDefault(record, Set.of()).contains(one[0])) {
                all.add(field);
            }
        }
        return all;
    }

    private Set<String> keys(int record) {
        Map<Integer, String> byField = new java.util.TreeMap<>();
        for (int field : fieldsOf(record, 0)) {
            words(text(field)).stream().filter(word -> word.length() >= 4).findFirst()
                    .ifPresent(word -> byField.put(field, word.substring(0, 4)));
        }
        for (int field : fieldsOf(record, 2)) {
            String form = form(text(field));
            if (form != null) {
                byField.put(field, form);
            }
        }
        return new LinkedHashSet<>(byField.values());
    }

    private static List<String> words(String text) {
        List<String> all = new ArrayList<>();
        for (String word : text.split("[^A-Za-z0-9]+")) {
            if (!word.isEmpty()) {
                all.add(word.toLowerCase(Locale.ROOT));
            }
        }
        return all;
    }

    private static int number(String text) {
        String digits = text.replaceAll("[^0-9]", "");
        String last = digits.substring(Math.max(0, digits.length() - 4));
        return last.isEmpty() ? 0 : Integer.parseInt(last);
    }

    private static String form(String text) {
        String signs = text.replaceAll("[^0-9Xx]", "").toUpperCase(Locale.ROOT);
        // Nine digits, with crosses among them, then a cross: that one stays, and all others go.
        java.util.regex.Matcher cross = java.util.regex.Pattern.compile("^((?:X*[0-9]){9})X(.*)$").matcher(signs);
        String kept = cross.matches()
                ? cross.group(1).replace("X", "") + "X" + cross.group(2).replace("X", "")
                : signs.replace("X", "");
        if (kept.matches("[0-9]{9}[0-9X]")) {
            int sum = 0;
            for (int place = 10; place >= 1; place--) {
                sum += place * "0123456789X".indexOf(kept.charAt(10 - place));
            }
            for (char last = '0'; sum % 11 == 0 && last <= '9'; last++) {
                String form = "978" + kept.substring(0, 9) + last;
                if (rightThirteen(form)) {
                    return form;
                }
            }
            return null;
        }
        return kept.matches("[0-9]{13}") && rightThirteen(kept) ? kept : null;
    }

    private static boolean rightThirteen(String digits) {
        int sum = 0;
        for (int place = 1; place <= 13; place++) {
            sum += Character.digit(digits.charAt(place - 1), 10) * (place % 2 == 1 ? 1 : 3);
        }
        return sum % 10 == 0;
    }

    private static BigInteger[] like(int part, String one, String other) {
        switch (part) {
            case 0:
                Set<String> both = new TreeSet<>(words(one));
                both.retainAll(words(other));
                Set<String> any = new TreeSet<>(words(one));
                any.addAll(words(other));
                return any.isEmpty() ? fraction(0, 1) : fraction(both.size(), any.size());
            case 1:
                int apart = Math.abs(number(one) - number(other));
                return apart == 0 ? fraction(1, 1) : apart == 1 ? fraction(1, 2) : fraction(0, 1);
            case 2:
                return fraction(form(one) != null && form(one).equals(form(other)) ? 1 : 0, 1);
            case 3:
                return fraction(words(one).equals(words(other)) ? 1 : 0, 1);
            default:
                int less = Math.min(number(one), number(other));
                int more = Math.max(number(one), number(other));
                return more == 0 ? fraction(1, 1) : fraction(less, more);
        }
    }

    private static BigInteger[] fraction(long above, long below) {
        return new BigInteger[] {BigInteger.valueOf(above), BigInteger.valueOf(below)};
    }

    private static BigInteger[] plus(BigInteger[] a, BigInteger[] b) {
        return new BigInteger[] {a[0].multiply(b[1]).add(b[0].multiply(a[1])), a[1].multiply(b[1])};
    }
}
