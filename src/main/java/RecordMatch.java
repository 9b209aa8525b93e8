/** Records of books: which may be the same, how like they are, which are made one, and how that is undone. */
public final class RecordMatch {
    public static final int NONE = -1;

    private static final int MOST_RECORDS = 40;
    private static final int MOST_FIELDS = 200;
    private static final int MOST_SIGNS = 60;
    private static final int MOST_TAG = 9;

    private static final int TITLE = 0;
    private static final int YEAR = 1;
    private static final int BOOK_NUMBER = 2;
    private static final int PUBLISHER = 3;
    private static final int PAGES = 4;
    private static final int PARTS = 5;

    private static final int MOST_UP = 100;
    private static final int MOST_DOWN = 10;

    private Book firstBook;
    private Book lastBook;
    private int bookCount;
    private Text firstText;
    private Text lastText;
    private int textCount;
    private final int[] found;
    private int foundCount;
    private final KeyReader keyReader;
    private final KeyRow keys;
    private final Likeness likeness;

    public RecordMatch() {
        found = new int[MOST_RECORDS];
        keyReader = new KeyReader();
        keys = new KeyRow();
        likeness = new Likeness();
    }

    public int record(int rank) {
        if (bookCount >= MOST_RECORDS) {
            return 0;
        }
        bookCount++;
        Book book = new Book(bookCount, rank);
        if (lastBook == null) {
            firstBook = book;
        } else {
            lastBook.next = book;
        }
        lastBook = book;
        return book.number;
    }

    public int field(int record, int tag) {
        Book book = standingBook(record);
        if (book == null || tag < 0 || tag > MOST_TAG || textCount >= MOST_FIELDS) {
            return 0;
        }
        textCount++;
        Text text = new Text(textCount, tag, book);
        if (lastText == null) {
            firstText = text;
        } else {
            lastText.next = text;
        }
        lastText = text;
        return text.number;
    }

    public void sign(int field, int c) {
        Text text = textOf(field);
        if (text != null) {
            text.append((char) (c & 255));
        }
    }

    public int isbn(int record, int i) {
        Book book = standingBook(record);
        if (book == null || i < 0) {
            return NONE;
        }
        int before = 0;
        for (Text text = firstText; text != null; text = text.next) {
            if (text.tag == BOOK_NUMBER && text.isOf(book)) {
                if (before == i) {
                    return keyReader.isRightNumber(text) ? 1 : 0;
                }
                before++;
            }
        }
        return NONE;
    }

    public int weight(int part, long up, long down) {
        if (part < 0 || part >= PARTS || up < 0 || up > MOST_UP || down < 1 || down > MOST_DOWN) {
            return 0;
        }
        likeness.weigh(part, up, down);
        return 1;
    }

    public long score(int a, int b, int side) throws ArithmeticException {
        Book one = standingBook(a);
        Book other = standingBook(b);
        if (one == null || other == null) {
            return NONE;
        }
        likeness.clear();
        for (int part = 0; part < PARTS; part++) {
            likeness.compare(part, firstTextOf(one, part), firstTextOf(other, part));
        }
        if (!likeness.hasWeight()) {
            throw new ArithmeticException("no part of both has a weight");
        }
        return side == 0 ? likeness.above() : likeness.below();
    }

    public int candidates(int record) {
        Book book = standingBook(record);
        if (book == null) {
            return NONE;
        }
        collectKeys(book);
        clearMarks();
        for (Text text = firstText; text != null; text = text.next) {
            if (keys.holds(keyReader.keyOf(text))) {
                text.owner.outermost().marked = true;
            }
        }
        book.marked = false;
        listMarked();
        return foundCount;
    }

    public int at(int i) {
        return i >= 0 && i < foundCount && i < found.length ? found[i] : NONE;
    }

    public int merge(int a, int b) {
        Book one = standingBook(a);
        Book other = standingBook(b);
        if (one == null || other == null || one == other || one.isLocked && other.isLocked) {
            return 0;
        }
        if (one.leads(other)) {
            one.take(other);
            return one.number;
        }
        other.take(one);
        return other.number;
    }

    public int winner(int record, int field) {
        Book book = standingBook(record);
        Text asked = textOf(field);
        if (book == null || asked == null || !asked.isOf(book)) {
            return 0;
        }
        Text best = asked;
        for (Text text = firstText; text != null; text = text.next) {
            if (text.tag == asked.tag && text.isOf(book) && text.beats(best)) {
                best = text;
            }
        }
        return best.number;
    }

    public int undo(int record) {
        Book book = standingBook(record);
        return book != null && book.giveBackLatest() ? 1 : 0;
    }

    public int locked(int record, boolean on) {
        Book book = bookOf(record);
        if (book == null) {
            return NONE;
        }
        boolean before = book.isLocked;
        book.isLocked = on;
        return before ? 1 : 0;
    }

    public int index(int record, int i) throws ArrayIndexOutOfBoundsException {
        Book book = bookOf(record);
        if (book == null) {
            return NONE;
        }
        collectKeys(book);
        if (!keys.has(i)) {
            throw new ArrayIndexOutOfBoundsException("the record has no such key");
        }
        return countHolders(keys.get(i));
    }

    private Book bookOf(int number) {
        for (Book book = firstBook; book != null; book = book.next) {
            if (book.number == number) {
                return book;
            }
        }
        return null;
    }

    private Book standingBook(int number) {
        Book book = bookOf(number);
        return book != null && book.host == null ? book : null;
    }

    private Text textOf(int number) {
        for (Text text = firstText; text != null; text = text.next) {
            if (text.number == number) {
                return text;
            }
        }
        return null;
    }

    private Text firstTextOf(Book book, int tag) {
        for (Text text = firstText; text != null; text = text.next) {
            if (text.tag == tag && text.isOf(book)) {
                return text;
            }
        }
        return null;
    }

    private void collectKeys(Book book) {
        keys.clear();
        for (Text text = firstText; text != null; text = text.next) {
            if (text.isOf(book)) {
                keys.add(keyReader.keyOf(text));
            }
        }
    }

    private int countHolders(long key) {
        clearMarks();
        int count = 0;
        for (Text text = firstText; text != null; text = text.next) {
            Book holder = text.owner.outermost();
            if (!holder.marked && keyReader.keyOf(text) == key) {
                holder.marked = true;
                count++;
            }
        }
        return count;
    }

    private void clearMarks() {
        for (Book book = firstBook; book != null; book = book.next) {
            book.marked = false;
        }
    }

    private void listMarked() {
        foundCount = 0;
        for (Book book = firstBook; book != null; book = book.next) {
            if (book.marked && foundCount < found.length) {
                found[foundCount] = book.number;
                foundCount++;
            }
        }
    }

    /** A record. What it got by merges is a chain from the latest one back, so that undo takes the chain's head. */
    private static final class Book {
        final int number;
        final int rank;
        boolean isLocked;
        boolean marked;
        Book next;
        Book host;
        Book latest;
        Book earlier;

        Book(int number, int rank) {
            this.number = number;
            this.rank = rank;
        }

        Book outermost() {
            Book book = this;
            while (book.host != null) {
                book = book.host;
            }
            return book;
        }

        boolean leads(Book other) {
            return rank > other.rank || rank == other.rank && number < other.number;
        }

        void take(Book other) {
            other.host = this;
            other.earlier = latest;
            latest = other;
        }

        boolean giveBackLatest() {
            Book given = latest;
            if (given == null) {
                return false;
            }
            latest = given.earlier;
            given.earlier = null;
            given.host = null;
            return true;
        }
    }

    /** A field, with the record that it was made for. */
    private static final class Text {
        final int number;
        final int tag;
        final Book owner;
        final char[] signs;
        int length;
        Text next;

        Text(int number, int tag, Book owner) {
            this.number = number;
            this.tag = tag;
            this.owner = owner;
            signs = new char[MOST_SIGNS];
        }

        void append(char c) {
            if (length < signs.length) {
                signs[length] = c;
                length++;
            }
        }

        /** A record that is in another one is nobody's outermost, so it has no fields by this. */
        boolean isOf(Book book) {
            return owner.outermost() == book;
        }

        boolean beats(Text other) {
            if (length != other.length) {
                return length > other.length;
            }
            if (owner.rank != other.owner.rank) {
                return owner.rank > other.owner.rank;
            }
            return number < other.number;
        }

        int lastFourDigits() {
            int value = 0;
            for (int i = 0; i < length && i < signs.length; i++) {
                if (Signs.isDigit(signs[i])) {
                    value = (value * 10 + signs[i] - '0') % 10000;
                }
            }
            return value;
        }
    }

    /** What single signs are. */
    private static final class Signs {
        static final char NO_WORD = 0;

        static boolean isDigit(char c) {
            return c >= '0' && c <= '9';
        }

        static boolean isCross(char c) {
            return c == 'X' || c == 'x';
        }

        /** The sign as it stands in a word, or NO_WORD if it stands in none. */
        static char inWord(char c) {
            if (c >= 'A' && c <= 'Z') {
                return (char) (c - 'A' + 'a');
            }
            return c >= 'a' && c <= 'z' || isDigit(c) ? c : NO_WORD;
        }
    }

    /** The words of one text at a time; its rows are used again for the next text. */
    private static final class Words {
        private static final int MOST_WORDS = MOST_SIGNS / 2;
        private static final int KEY_SIGNS = 4;

        private final char[] signs;
        private final int[] starts;
        private final int[] lengths;
        private int count;

        Words() {
            signs = new char[MOST_SIGNS];
            starts = new int[MOST_WORDS];
            lengths = new int[MOST_WORDS];
        }

        void read(Text text) {
            count = 0;
            boolean inside = false;
            for (int i = 0; i < text.length && i < MOST_SIGNS; i++) {
                signs[i] = Signs.inWord(text.signs[i]);
                if (signs[i] == Signs.NO_WORD) {
                    inside = false;
                } else if (inside) {
                    lengths[count - 1]++;
                } else if (count < MOST_WORDS) {
                    starts[count] = i;
                    lengths[count] = 1;
                    count++;
                    inside = true;
                }
            }
        }

        int countDifferent() {
            int different = 0;
            for (int i = 0; i < count; i++) {
                if (!hasAmongFirst(i, this, i)) {
                    different++;
                }
            }
            return different;
        }

        int countDifferentIn(Words other) {
            int different = 0;
            for (int i = 0; i < count; i++) {
                if (!hasAmongFirst(i, this, i) && other.hasAmongFirst(other.count, this, i)) {
                    different++;
                }
            }
            return different;
        }

        boolean sameRow(Words other) {
            if (count != other.count) {
                return false;
            }
            for (int i = 0; i < count; i++) {
                if (!sameWord(i, other, i)) {
                    return false;
                }
            }
            return true;
        }

        /** The first signs of the first word that is long enough, as one number above 0; 0 if there is no such word. */
        int startOfFirstLong() {
            for (int i = 0; i < count; i++) {
                if (lengths[i] >= KEY_SIGNS) {
                    return packed(starts[i]);
                }
            }
            return 0;
        }

        private int packed(int start) {
            int value = 0;
            for (int i = start; i < start + KEY_SIGNS && i < MOST_SIGNS; i++) {
                value = value << 7 | signs[i];
            }
            return value;
        }

        private boolean hasAmongFirst(int first, Words other, int theirs) {
            for (int i = 0; i < first; i++) {
                if (sameWord(i, other, theirs)) {
                    return true;
                }
            }
            return false;
        }

        private boolean sameWord(int mine, Words other, int theirs) {
            if (lengths[mine] != other.lengths[theirs]) {
                return false;
            }
            for (int i = 0; i < lengths[mine]; i++) {
                if (signs[starts[mine] + i] != other.signs[other.starts[theirs] + i]) {
                    return false;
                }
            }
            return true;
        }
    }

    /** The book number of one text at a time; its row is used again for the next text. */
    private static final class BookNumber {
        static final long NO_FORM = -1;

        private static final int SHORT = 10;
        private static final int LONG = 13;
        private static final int CROSS = 10;
        private static final int LEFT_OUT = -1;
        private static final long PREFIX = 978;
        private static final int PREFIX_SUM = 9 + 3 * 7 + 8;

        private final int[] values;
        private int count;
        private boolean crossed;

        BookNumber() {
            values = new int[LONG];
        }

        /** The text's FORM, or NO_FORM if it is not right. */
        long formOf(Text text) {
            read(text);
            if (count == SHORT && isShortRight()) {
                return formOfShort();
            }
            return count == LONG && !crossed && isLongRight() ? formOfLong() : NO_FORM;
        }

        private void read(Text text) {
            count = 0;
            crossed = false;
            for (int i = 0; i < text.length && i < MOST_SIGNS; i++) {
                int value = valueOf(text.signs[i]);
                if (value != LEFT_OUT) {
                    // More signs than fit are only counted: they make the number wrong whatever they are.
                    if (count < LONG) {
                        values[count] = value;
                    }
                    count++;
                }
            }
        }

        private int valueOf(char c) {
            if (Signs.isDigit(c)) {
                return c - '0';
            }
            if (Signs.isCross(c) && count == SHORT - 1) {
                crossed = true;
                return CROSS;
            }
            return LEFT_OUT;
        }

        private boolean isShortRight() {
            int sum = 0;
            for (int i = 0; i < SHORT; i++) {
                sum += values[i] * (SHORT - i);
            }
            return sum % 11 == 0;
        }

        private boolean isLongRight() {
            int sum = 0;
            for (int i = 0; i < LONG; i++) {
                sum += i % 2 == 0 ? values[i] : 3 * values[i];
            }
            return sum % 10 == 0;
        }

        private long formOfShort() {
            long form = PREFIX;
            int sum = PREFIX_SUM;
            for (int i = 0; i < SHORT - 1; i++) {
                form = form * 10 + values[i];
                // The prefix moves each digit by three places, so the even ones count three times.
                sum += i % 2 == 0 ? 3 * values[i] : values[i];
            }
            return form * 10 + (10 - sum % 10) % 10;
        }

        private long formOfLong() {
            long form = 0;
            for (int i = 0; i < LONG; i++) {
                form = form * 10 + values[i];
            }
            return form;
        }
    }

    /** Reads a field's key as a number: below 0 for a title, above 0 for a book number, so that the two never meet. */
    private static final class KeyReader {
        static final long NO_KEY = 0;

        private final Words words;
        private final BookNumber bookNumber;

        KeyReader() {
            words = new Words();
            bookNumber = new BookNumber();
        }

        boolean isRightNumber(Text text) {
            return bookNumber.formOf(text) != BookNumber.NO_FORM;
        }

        long keyOf(Text text) {
            if (text.tag == TITLE) {
                words.read(text);
                return -words.startOfFirstLong();
            }
            if (text.tag == BOOK_NUMBER) {
                long form = bookNumber.formOf(text);
                return form == BookNumber.NO_FORM ? NO_KEY : form + 1;
            }
            return NO_KEY;
        }
    }

    /** The keys of one record at a time, each but once. */
    private static final class KeyRow {
        private final long[] row;
        private int count;

        KeyRow() {
            row = new long[MOST_FIELDS];
        }

        void clear() {
            count = 0;
        }

        void add(long key) {
            if (key != KeyReader.NO_KEY && !holds(key) && count < row.length) {
                row[count] = key;
                count++;
            }
        }

        boolean holds(long key) {
            for (int i = 0; i < count; i++) {
                if (row[i] == key) {
                    return true;
                }
            }
            return false;
        }

        boolean has(int i) {
            return i >= 0 && i < count;
        }

        long get(int i) {
            return has(i) && i < row.length ? row[i] : KeyReader.NO_KEY;
        }
    }

    /** The weights of the parts, and the LIKENESS of one pair of records at a time. */
    private static final class Likeness {
        // A multiple of every divisor that a weight may have, so that weights are whole numbers of it.
        private static final long UNIT = 2520;

        private final long[] weights;
        private final Words words;
        private final Words otherWords;
        private final BookNumber bookNumber;
        private long sumAbove;
        private long sumBelow;
        private long weightSum;

        Likeness() {
            weights = new long[PARTS];
            for (int part = 0; part < PARTS; part++) {
                weights[part] = UNIT;
            }
            words = new Words();
            otherWords = new Words();
            bookNumber = new BookNumber();
        }

        void weigh(int part, long up, long down) {
            if (part >= 0 && part < PARTS && down > 0) {
                weights[part] = up * (UNIT / down);
            }
        }

        void clear() {
            sumAbove = 0;
            sumBelow = 1;
            weightSum = 0;
        }

        /** Takes a part into the sum, if both records have a field for it. */
        void compare(int part, Text one, Text other) {
            if (one == null || other == null) {
                return;
            }
            switch (part) {
                case TITLE:
                    compareTitles(one, other);
                    break;
                case YEAR:
                    compareYears(one.lastFourDigits(), other.lastFourDigits());
                    break;
                case BOOK_NUMBER:
                    compareBookNumbers(one, other);
                    break;
                case PUBLISHER:
                    comparePublishers(one, other);
                    break;
                case PAGES:
                    comparePages(one.lastFourDigits(), other.lastFourDigits());
                    break;
                default:
                    break;
            }
        }

        boolean hasWeight() {
            return weightSum > 0;
        }

        long above() {
            return sumAbove / commonDivisor();
        }

        long below() {
            return sumBelow * weightSum / commonDivisor();
        }

        private void compareTitles(Text one, Text other) {
            words.read(one);
            otherWords.read(other);
            int inBoth = words.countDifferentIn(otherWords);
            int inOne = words.countDifferent() + otherWords.countDifferent() - inBoth;
            if (inOne == 0) {
                add(TITLE, 0, 1);
            } else {
                add(TITLE, inBoth, inOne);
            }
        }

        private void compareYears(int one, int other) {
            int apart = Math.abs(one - other);
            add(YEAR, Math.max(0, 2 - apart), 2);
        }

        private void compareBookNumbers(Text one, Text other) {
            long form = bookNumber.formOf(one);
            boolean same = form != BookNumber.NO_FORM && form == bookNumber.formOf(other);
            add(BOOK_NUMBER, same ? 1 : 0, 1);
        }

        private void comparePublishers(Text one, Text other) {
            words.read(one);
            otherWords.read(other);
            add(PUBLISHER, words.sameRow(otherWords) ? 1 : 0, 1);
        }

        private void comparePages(int one, int other) {
            if (one == other) {
                add(PAGES, 1, 1);
            } else {
                add(PAGES, Math.min(one, other), Math.max(one, other));
            }
        }

        /** At most 60 words, 2 and 9999 stand below the line together, so a long holds every sum. */
        private void add(int part, int above, int below) {
            sumAbove = sumAbove * below + sumBelow * above * weights[part];
            sumBelow *= below;
            weightSum += weights[part];
        }

        private long commonDivisor() {
            long one = sumBelow * weightSum;
            long other = sumAbove;
            // Far more turns than Euclid's way takes for any two longs.
            for (int turn = 0; turn < 1000 && other != 0; turn++) {
                long rest = one % other;
                one = other;
                other = rest;
            }
            return Math.max(1, one);
        }
    }
}
