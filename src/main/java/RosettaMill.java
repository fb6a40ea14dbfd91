import java.util.Arrays;
import java.util.NoSuchElementException;

/**
 * A mill that turns data from one notation into others. ../shared/DOC.md says what each call does.
 *
 * All rows of memory are made in the constructor and used again by every call: no call makes an object but for the
 * exception that it throws.
 */
public final class RosettaMill {
    private static final int TAPES = 4;
    private static final int LONGEST_TAPE = 240;
    private static final int LONGEST_PIECES = 480;
    private static final int DOCUMENTS = 8;
    private static final int MOST_VALUES = 200;
    private static final int DEEPEST = 8;
    private static final int LONGEST_TEXT = 20;
    private static final int MOST_DIGITS = 9;
    private static final int MOST_BEHIND = 4;
    private static final int LARGEST = 999999999;
    private static final int LARGEST_OPERAND = 999;
    private static final int NEW_LINE = 10;
    private static final int FAULT = -2;
    // In lines a text is longest: 200 lines of at most 7 steps of 43 bytes, = , a text of 42 and the byte 10.
    private static final int LONGEST_PAGE = 69000;
    private static final int EXACT_IN_FLOAT = 16777216;
    private static final int[] TENS = {1, 10, 100, 1000, 10000, 100000, 1000000, 10000000, 100000000, 1000000000};

    private final Texts[] tapes = new Texts[TAPES];
    private final Document[] documents = new Document[DOCUMENTS];
    private final int[] settings = new int[12];
    private final Texts pieces = new Texts(1, LONGEST_PIECES);
    private boolean underWay;
    private char pieceDialect;
    private final BraceReader braces;
    private final ParenReader parens;
    private final LineReader lines;
    private final Document spare = new Document();
    private final PathFinder finder = new PathFinder();
    private final TextWriter writer = new TextWriter();
    private final Weaver weaver = new Weaver();
    private int selectedMany;
    private final char[] selectedKinds = new char[MOST_VALUES];
    private final int[] selectedSizes = new int[MOST_VALUES];
    private final int[] selectedNumbers = new int[MOST_VALUES];
    private final boolean[] selectedMinuses = new boolean[MOST_VALUES];

    public RosettaMill() {
        for (int i = 0; i < TAPES; i++) {
            tapes[i] = new Texts(1, LONGEST_TAPE);
        }
        for (int i = 0; i < DOCUMENTS; i++) {
            documents[i] = new Document();
        }
        Document made = new Document();
        braces = new BraceReader(made);
        parens = new ParenReader(made);
        lines = new LineReader(made);
    }

    // ---- tapes

    public int type(int tape, int bytes, int many)
            throws IndexOutOfBoundsException, IllegalArgumentException, IllegalStateException {
        Texts typed = tapeAt(tape);
        if (many < 1 || many > 4) {
            throw new IllegalArgumentException("1 to 4 bytes are typed");
        }
        if (typed.lengthOf(0) + many > LONGEST_TAPE) {
            throw new IllegalStateException("the tape would be too long");
        }
        for (int i = many - 1; i >= 0; i--) {
            typed.add(0, bytes >>> 8 * i & 255);
        }
        return typed.lengthOf(0);
    }

    public int clear(int tape) throws IndexOutOfBoundsException {
        Texts cleared = tapeAt(tape);
        int before = cleared.lengthOf(0);
        cleared.empty(0);
        return before;
    }

    public int length(int tape) throws IndexOutOfBoundsException {
        return tapeAt(tape).lengthOf(0);
    }

    public int byteAt(int tape, int index) throws IndexOutOfBoundsException {
        Texts asked = tapeAt(tape);
        if (index < 0 || index >= asked.lengthOf(0)) {
            throw new IndexOutOfBoundsException("no such byte");
        }
        return asked.at(0, index);
    }

    // ---- reading and writing

    public int set(char dialect, char what, int value) throws IllegalArgumentException, IllegalStateException {
        int place = settingPlace(dialect, what);
        if (place < 0 || place >= settings.length) {
            throw new IllegalArgumentException("no such dialect or setting");
        }
        if (value < 0 || value > (what == 't' ? 2 : 1)) {
            throw new IllegalArgumentException("the value is out of range");
        }
        if (underWay) {
            throw new IllegalStateException("a text is read in pieces");
        }
        int before = settings[place];
        settings[place] = value;
        return before;
    }

    public int read(int tape, char dialect, int document) throws IndexOutOfBoundsException, IllegalArgumentException {
        Texts text = tapeAt(tape);
        checkPlace(document);
        checkDialect(dialect);
        TextReader reader = ready(dialect, text, text.lengthOf(0));
        return keepRead(reader, reader.readWhole(), document);
    }

    public boolean begin(char dialect) throws IllegalArgumentException {
        checkDialect(dialect);
        boolean before = underWay;
        underWay = true;
        pieceDialect = dialect;
        pieces.empty(0);
        return before;
    }

    public int piece(int tape) throws IndexOutOfBoundsException, IllegalStateException {
        Texts added = tapeAt(tape);
        if (!underWay) {
            throw new IllegalStateException("no text is under way");
        }
        int many = added.lengthOf(0);
        if (pieces.lengthOf(0) + many > LONGEST_PIECES) {
            throw new IllegalStateException("the text would be too long");
        }
        for (int i = 0; i < many; i++) {
            pieces.add(0, added.at(0, i));
        }
        TextReader reader = ready(pieceDialect, pieces, pieces.lengthOf(0));
        boolean whole = reader.readWhole();
        return whole || reader.place() >= pieces.lengthOf(0) ? -1 : reader.place();
    }

    public int finish(int document) throws IndexOutOfBoundsException, IllegalStateException {
        checkPlace(document);
        if (!underWay) {
            throw new IllegalStateException("no text is under way");
        }
        underWay = false;
        TextReader reader = ready(pieceDialect, pieces, pieces.lengthOf(0));
        return keepRead(reader, reader.readWhole(), document);
    }

    public int write(int document, char dialect, int tape)
            throws IndexOutOfBoundsException, NoSuchElementException, IllegalArgumentException,
            UnsupportedOperationException {
        Texts target = tapeAt(tape);
        Document written = documentAt(document);
        checkDialect(dialect);
        Texts page = writer.written(written, dialect, settingOf(dialect, 's') == 1, false);
        if (page.lengthOf(0) > LONGEST_TAPE) {
            throw new UnsupportedOperationException("the text would be too long");
        }
        target.copy(0, page, 0);
        return target.lengthOf(0);
    }

    // ---- paths

    public int select(int document, int tape) throws IndexOutOfBoundsException, NoSuchElementException {
        Texts path = tapeAt(tape);
        Document asked = documentAt(document);
        int many = finder.find(asked, path);
        if (many < 0) {
            return many;
        }
        selectedMany = Math.min(many, MOST_VALUES);
        for (int i = 0; i < selectedMany; i++) {
            int found = finder.foundAt(i);
            selectedKinds[i] = asked.kindAt(found);
            selectedSizes[i] = asked.sizeAt(found);
            selectedNumbers[i] = asked.numberAt(found);
            selectedMinuses[i] = asked.isMinus(found);
        }
        return selectedMany;
    }

    public char kindOf(int index) throws IndexOutOfBoundsException {
        checkSelected(index);
        return selectedKinds[index];
    }

    public int sizeOf(int index) throws IndexOutOfBoundsException {
        checkSelected(index);
        return selectedSizes[index];
    }

    public int numberOf(int index) throws IndexOutOfBoundsException, NoSuchElementException {
        checkSelectedNumber(index);
        return selectedNumbers[index];
    }

    public int floatOf(int index) throws IndexOutOfBoundsException, NoSuchElementException {
        checkSelectedNumber(index);
        if (selectedNumbers[index] == 0) {
            return selectedMinuses[index] ? Integer.MIN_VALUE : 0;
        }
        return bitsOf((float) ((double) selectedNumbers[index] / (double) tens(selectedSizes[index])));
    }

    public int replace(int document, int tape, int by)
            throws IndexOutOfBoundsException, NoSuchElementException, UnsupportedOperationException {
        Texts path = tapeAt(tape);
        Document changed = documentAt(document);
        Document with = documentAt(by);
        int many = finder.find(changed, path);
        if (many < 0) {
            return many;
        }
        many = weaver.replaced(changed, finder, with);
        keepWoven(document);
        return many;
    }

    public int remove(int document, int tape) throws IndexOutOfBoundsException, NoSuchElementException {
        Texts path = tapeAt(tape);
        Document changed = documentAt(document);
        int many = finder.find(changed, path);
        if (many < 0) {
            return many;
        }
        many = weaver.removed(changed, finder);
        keepWoven(document);
        return many;
    }

    public int put(int document, int tape, int key, int by)
            throws IndexOutOfBoundsException, NoSuchElementException, IllegalArgumentException,
            UnsupportedOperationException {
        Texts path = tapeAt(tape);
        Texts name = tapeAt(key);
        Document changed = documentAt(document);
        Document with = documentAt(by);
        if (!isKey(name)) {
            throw new IllegalArgumentException("the tape is no key");
        }
        int many = finder.find(changed, path);
        if (many < 0) {
            return many;
        }
        many = weaver.filled(changed, finder, name, with);
        keepWoven(document);
        return many;
    }

    public int change(int document, int tape, char op, int number)
            throws IndexOutOfBoundsException, NoSuchElementException, IllegalArgumentException, ArithmeticException {
        Texts path = tapeAt(tape);
        Document changed = documentAt(document);
        if (!isOperation(op, number)) {
            throw new IllegalArgumentException("no such operation, or the number is out of range");
        }
        int many = finder.find(changed, path);
        if (many < 0) {
            return many;
        }
        if (!weaver.fitsChanged(changed, finder, op, number)) {
            throw new ArithmeticException("a number would have more than 9 digits");
        }
        return weaver.changed(changed, finder, op, number);
    }

    // ---- tables, differences and merges

    public int columns(int document, int to)
            throws IndexOutOfBoundsException, NoSuchElementException, UnsupportedOperationException {
        checkPlace(to);
        Document turned = documentAt(document);
        if (!turned.isTable('r', 'm')) {
            throw new UnsupportedOperationException("it is no row of maps");
        }
        int many = weaver.turnedToColumns(turned);
        keepWoven(to);
        return many;
    }

    public int rows(int document, int to)
            throws IndexOutOfBoundsException, NoSuchElementException, UnsupportedOperationException {
        checkPlace(to);
        Document turned = documentAt(document);
        if (!turned.isTable('m', 'r') || !turned.isEven()) {
            throw new UnsupportedOperationException("it is no map of rows of the same length");
        }
        int many = weaver.turnedToRows(turned);
        keepWoven(to);
        return many;
    }

    public int differences(int document, int other) throws NoSuchElementException {
        return Likeness.apart(documentAt(document), documentAt(other));
    }

    public int merge(int from, int first, int second, int to)
            throws IndexOutOfBoundsException, NoSuchElementException, UnsupportedOperationException {
        checkPlace(to);
        int conflicts = weaver.merged(documentAt(from), documentAt(first), documentAt(second));
        keepWoven(to);
        return conflicts;
    }

    public boolean areSame(int document, int other) throws NoSuchElementException {
        return Likeness.isSame(documentAt(document), 0, documentAt(other), 0, false);
    }

    // ---- figures

    public int values(int document) throws NoSuchElementException {
        return documentAt(document).count();
    }

    public int depth(int document) throws NoSuchElementException {
        return documentAt(document).deepest();
    }

    public int lost(int document) throws NoSuchElementException {
        Document asked = documentAt(document);
        int many = 0;
        for (int i = 0; i < asked.count(); i++) {
            if (asked.kindAt(i) == 'n' && !isSomeFloat(asked.numberAt(i), asked.behindAt(i))) {
                many++;
            }
        }
        return many;
    }

    public long sum(int document) throws NoSuchElementException {
        Texts page = writer.written(documentAt(document), 'b', true, true);
        long sum = 7;
        for (int i = 0; i < page.lengthOf(0); i++) {
            sum = 31 * sum + page.at(0, i);
        }
        return sum;
    }

    public float heldShare() throws ArithmeticException {
        int held = 0;
        int all = 0;
        for (int i = 0; i < DOCUMENTS; i++) {
            Document document = documents[i];
            if (document != null) {
                held += document.countHolders();
                all += document.count();
            }
        }
        if (all <= 0) {
            throw new ArithmeticException("there are no documents");
        }
        return (float) held / (float) all;
    }

    public double meanDepth() throws ArithmeticException {
        int sum = 0;
        int many = 0;
        for (int i = 0; i < DOCUMENTS; i++) {
            Document document = documents[i];
            if (document != null && document.count() > 0) {
                sum += document.deepest();
                many++;
            }
        }
        if (many <= 0) {
            throw new ArithmeticException("there are no documents");
        }
        return (double) sum / (double) many;
    }

    public boolean isSound() {
        for (int i = 0; i < DOCUMENTS; i++) {
            Document document = documents[i];
            for (int j = 0; j < 3 && document != null && document.count() > 0; j++) {
                char dialect = j == 0 ? 'b' : j == 1 ? 'p' : 'l';
                Texts page = writer.written(document, dialect, settingOf(dialect, 's') == 1, false);
                if (!comesBack(document, dialect, page)) {
                    return false;
                }
            }
        }
        return true;
    }

    // ---- what the calls share

    private Texts tapeAt(int tape) {
        if (tape < 0 || tape >= tapes.length || tapes[tape] == null) {
            throw new IndexOutOfBoundsException("no such tape");
        }
        return tapes[tape];
    }

    private Document documentAt(int document) {
        if (document < 0 || document >= documents.length || documents[document] == null
                || documents[document].count() == 0) {
            throw new NoSuchElementException("no such document");
        }
        return documents[document];
    }

    private void checkPlace(int document) {
        if (document < 0 || document >= documents.length) {
            throw new IndexOutOfBoundsException("no such document");
        }
    }

    private void checkDialect(char dialect) {
        if (dialect != 'b' && dialect != 'p' && dialect != 'l') {
            throw new IllegalArgumentException("no such dialect");
        }
    }

    private void checkSelected(int index) {
        if (index < 0 || index >= selectedMany || index >= MOST_VALUES) {
            throw new IndexOutOfBoundsException("no such value");
        }
    }

    private void checkSelectedNumber(int index) {
        checkSelected(index);
        if (selectedKinds[index] != 'n') {
            throw new NoSuchElementException("it is no number");
        }
    }

    private static int settingPlace(char dialect, char what) {
        int row = dialect == 'b' ? 0 : dialect == 'p' ? 4 : dialect == 'l' ? 8 : -1;
        if (row < 0) {
            return -1;
        }
        switch (what) {
            case 's':
                return row;
            case 'c':
                return row < 8 ? row + 1 : -1;
            case 't':
                return row < 8 ? row + 2 : -1;
            case 'e':
                return row == 0 ? 3 : -1;
            default:
                return -1;
        }
    }

    private int settingOf(char dialect, char what) {
        int place = settingPlace(dialect, what);
        return place >= 0 && place < settings.length ? settings[place] : 0;
    }

    private TextReader ready(char dialect, Texts text, int length) {
        TextReader reader = dialect == 'b' ? braces : dialect == 'p' ? parens : lines;
        reader.start(text, length);
        reader.arrange(settingOf(dialect, 'c') == 1, settingOf(dialect, 'e') == 1, settingOf(dialect, 't'));
        return reader;
    }

    private int keepRead(TextReader reader, boolean whole, int document) {
        if (!whole || document < 0 || document >= documents.length || documents[document] == null) {
            return -1 - reader.place();
        }
        reader.giveTo(documents[document]);
        return documents[document].count();
    }

    private void keepWoven(int document) {
        if (weaver.isTooMuch()) {
            throw new UnsupportedOperationException("too many values, or too deep ones");
        }
        if (document >= 0 && document < documents.length && documents[document] != null) {
            documents[document] = weaver.exchange(documents[document]);
        }
    }

    private boolean comesBack(Document document, char dialect, Texts page) {
        int length = page.lengthOf(0);
        TextReader reader = ready(dialect, page, length / 2);
        if (!reader.readWhole() && reader.place() < length / 2) {
            return false;
        }
        reader = ready(dialect, page, length);
        if (!reader.readWhole()) {
            return false;
        }
        reader.giveTo(spare);
        return Likeness.isSame(document, 0, spare, 0, true);
    }

    private static boolean isKey(Texts name) {
        if (name.lengthOf(0) > LONGEST_TEXT) {
            return false;
        }
        for (int i = 0; i < name.lengthOf(0); i++) {
            int value = name.at(0, i);
            if (value != NEW_LINE && (value < 32 || value > 126)) {
                return false;
            }
        }
        return true;
    }

    private static boolean isOperation(char op, int number) {
        switch (op) {
            case '+':
            case '*':
                return number >= -LARGEST_OPERAND && number <= LARGEST_OPERAND;
            case 'c':
                return number >= 0 && number <= MOST_BEHIND;
            case '-':
                return true;
            default:
                return false;
        }
    }

    private static int tens(int power) {
        return power >= 0 && power < TENS.length ? TENS[power] : 1;
    }

    // A number is a float if it is one divided by a power of 2, with at most 24 bits from its highest to its lowest 1.
    private static boolean isSomeFloat(int number, int behind) {
        int rest = Math.abs(number);
        for (int i = 0; i < behind && i < MOST_BEHIND; i++) {
            if (rest % 5 != 0) {
                return false;
            }
            rest /= 5;
        }
        for (int i = 0; i < 31 && rest % 2 == 0; i++) {
            rest /= 2;
        }
        return rest < EXACT_IN_FLOAT;
    }

    // The float is not 0; it is brought between 1 and 2 by powers of 2, which loses nothing.
    private static int bitsOf(float number) {
        float rest = number < 0 ? -number : number;
        int power = 0;
        while (rest >= 2 && power < 127) {
            rest = rest / 2;
            power++;
        }
        while (rest < 1 && power > -126) {
            rest = rest * 2;
            power--;
        }
        int bits = power + 127 << 23 | (int) ((rest - 1) * 8388608f);
        return number < 0 ? bits | Integer.MIN_VALUE : bits;
    }

    // ---- rows of bytes, each with a length up to a limit

    private static final class Texts {
        private final int limit;
        private final int[] lengths;
        private final int[] bytes;

        Texts(int many, int limit) {
            this.limit = Math.max(limit, 1);
            this.lengths = new int[Math.max(many, 1)];
            this.bytes = new int[Math.max(Math.max(many, 1) * Math.max(limit, 1), 1)];
        }

        int lengthOf(int row) {
            return row >= 0 && row < lengths.length ? lengths[row] : 0;
        }

        int at(int row, int index) {
            if (row < 0 || row >= lengths.length || index < 0 || index >= lengths[row]) {
                return -1;
            }
            int place = row * limit + index;
            return place >= 0 && place < bytes.length ? bytes[place] : -1;
        }

        boolean add(int row, int value) {
            if (row < 0 || row >= lengths.length || lengths[row] >= limit) {
                return false;
            }
            int place = row * limit + lengths[row];
            if (place < 0 || place >= bytes.length) {
                return false;
            }
            bytes[place] = value;
            lengths[row]++;
            return true;
        }

        void empty(int row) {
            if (row >= 0 && row < lengths.length) {
                lengths[row] = 0;
            }
        }

        void copy(int row, Texts from, int fromRow) {
            if (row < 0 || row >= lengths.length || fromRow < 0 || fromRow >= from.lengths.length) {
                return;
            }
            int many = Math.min(from.lengths[fromRow], limit);
            int start = fromRow * from.limit;
            int target = row * limit;
            if (many < 0 || start < 0 || target < 0 || start + many > from.bytes.length
                    || target + many > bytes.length) {
                return;
            }
            System.arraycopy(from.bytes, start, bytes, target, many);
            lengths[row] = many;
        }

        boolean isSame(int row, Texts other, int otherRow) {
            return compare(row, other, otherRow) == 0;
        }

        // By bytes, and a shorter one is ahead of those that it begins.
        int compare(int row, Texts other, int otherRow) {
            if (row < 0 || row >= lengths.length || otherRow < 0 || otherRow >= other.lengths.length) {
                return -1;
            }
            int mine = row * limit;
            int its = otherRow * other.limit;
            int many = Math.min(lengths[row], other.lengths[otherRow]);
            if (mine < 0 || its < 0 || mine + many > bytes.length || its + many > other.bytes.length) {
                return -1;
            }
            for (int i = 0; i < many; i++) {
                if (bytes[mine + i] != other.bytes[its + i]) {
                    return bytes[mine + i] - other.bytes[its + i];
                }
            }
            return lengths[row] - other.lengths[otherRow];
        }
    }

    // ---- the core: the values of a document, each one ahead of what is in it, with its level, which is 1 for the
    // document itself. The key of a value that comes next can be laid into its row of the keys ahead of it.

    private static final class Document {
        private int count;
        private final char[] kinds = new char[MOST_VALUES];
        private final int[] levels = new int[MOST_VALUES];
        private final int[] numbers = new int[MOST_VALUES];
        private final int[] behinds = new int[MOST_VALUES];
        private final boolean[] minuses = new boolean[MOST_VALUES];
        private final Texts keys = new Texts(MOST_VALUES + 1, LONGEST_TEXT);
        private final Texts texts = new Texts(MOST_VALUES + 1, LONGEST_TEXT);

        int count() {
            return count;
        }

        Texts keys() {
            return keys;
        }

        Texts texts() {
            return texts;
        }

        boolean hasRoom(int level) {
            return count >= 0 && count < MOST_VALUES && level >= 1 && level <= DEEPEST;
        }

        void cutTo(int many) {
            count = Math.max(0, Math.min(many, count));
        }

        /** Adds a value behind all others, and returns its place, or -1 if there is no room for it. */
        int add(char kind, int level) {
            if (count < 0 || count >= MOST_VALUES || level < 1 || level > DEEPEST) {
                return -1;
            }
            int place = count;
            kinds[place] = kind;
            levels[place] = level;
            numbers[place] = 0;
            behinds[place] = 0;
            minuses[place] = false;
            count = place + 1;
            return place;
        }

        /** Adds a value like one of a document, without what is in it and without its key. */
        boolean addLike(Document from, int i, int level) {
            if (i < 0 || i >= from.count || i >= MOST_VALUES) {
                return false;
            }
            int place = add(from.kinds[i], level);
            if (place < 0 || place >= MOST_VALUES) {
                return false;
            }
            numbers[place] = from.numbers[i];
            behinds[place] = from.behinds[i];
            minuses[place] = from.minuses[i];
            texts.copy(place, from.texts, i);
            return true;
        }

        /** Adds a value of another document with all in it, without its own key. */
        boolean addAll(Document from, int i, int level) {
            int end = from.endOf(i);
            for (int j = i; j < end; j++) {
                if (j > i) {
                    keys.copy(count, from.keys, j);
                }
                if (!addLike(from, j, from.levelAt(j) - from.levelAt(i) + level)) {
                    return false;
                }
            }
            return true;
        }

        void nameNext(Texts from, int row) {
            keys.copy(count, from, row);
        }

        void become(int i, char kind) {
            if (i >= 0 && i < count && i < MOST_VALUES) {
                kinds[i] = kind;
            }
        }

        void giveNumber(int i, int number, int behind, boolean minus) {
            if (i >= 0 && i < count && i < MOST_VALUES) {
                numbers[i] = number;
                behinds[i] = behind;
                minuses[i] = minus;
            }
        }

        char kindAt(int i) {
            return i >= 0 && i < count && i < MOST_VALUES ? kinds[i] : ' ';
        }

        int levelAt(int i) {
            return i >= 0 && i < count && i < MOST_VALUES ? levels[i] : 0;
        }

        int numberAt(int i) {
            return i >= 0 && i < count && i < MOST_VALUES ? numbers[i] : 0;
        }

        int behindAt(int i) {
            return i >= 0 && i < count && i < MOST_VALUES ? behinds[i] : 0;
        }

        boolean isMinus(int i) {
            return i >= 0 && i < count && i < MOST_VALUES && minuses[i];
        }

        boolean isHolder(int i) {
            return i >= 0 && i < count && i < MOST_VALUES && (kinds[i] == 'r' || kinds[i] == 'm');
        }

        /** The place behind the last value in this one. */
        int endOf(int i) {
            if (i < 0 || i >= count || i >= MOST_VALUES) {
                return i;
            }
            for (int j = i + 1; j < count && j < MOST_VALUES; j++) {
                if (levels[j] <= levels[i]) {
                    return j;
                }
            }
            return count;
        }

        int countIn(int i) {
            int many = 0;
            int end = endOf(i);
            for (int j = i + 1; j < end; j++) {
                if (levelAt(j) == levelAt(i) + 1) {
                    many++;
                }
            }
            return many;
        }

        int lastIn(int i) {
            int last = -1;
            int end = endOf(i);
            for (int j = i + 1; j < end; j++) {
                if (levelAt(j) == levelAt(i) + 1) {
                    last = j;
                }
            }
            return last;
        }

        /** The value at a place of a row or map, or -1. */
        int valueIn(int i, int place) {
            int many = 0;
            int end = endOf(i);
            for (int j = i + 1; j < end; j++) {
                if (levelAt(j) != levelAt(i) + 1) {
                    continue;
                }
                if (many == place) {
                    return j;
                }
                many++;
            }
            return -1;
        }

        /** The first value that a map has by a key, or -1. */
        int valueBy(int i, Texts names, int row) {
            int end = endOf(i);
            for (int j = i + 1; j < end; j++) {
                if (levelAt(j) == levelAt(i) + 1 && keys.compare(j, names, row) == 0) {
                    return j;
                }
            }
            return -1;
        }

        int sizeAt(int i) {
            switch (kindAt(i)) {
                case 'b':
                    return numberAt(i);
                case 'n':
                    return behindAt(i);
                case 't':
                    return texts.lengthOf(i);
                case 'r':
                case 'm':
                    return countIn(i);
                default:
                    return 0;
            }
        }

        int deepest() {
            int deepest = 0;
            for (int i = 0; i < count; i++) {
                deepest = Math.max(deepest, levelAt(i));
            }
            return deepest;
        }

        int countHolders() {
            int many = 0;
            for (int i = 0; i < count; i++) {
                if (isHolder(i)) {
                    many++;
                }
            }
            return many;
        }

        boolean isTable(char outer, char inner) {
            if (kindAt(0) != outer) {
                return false;
            }
            for (int i = 1; i < count; i++) {
                if (levelAt(i) == 2 && kindAt(i) != inner) {
                    return false;
                }
            }
            return true;
        }

        /** Whether all rows or maps directly in the document have as many values. */
        boolean isEven() {
            for (int i = 1; i < count; i++) {
                if (levelAt(i) == 2 && countIn(i) != countIn(1)) {
                    return false;
                }
            }
            return true;
        }
    }

    // ---- a place in a text that goes on byte by byte: a byte is left behind only if it can stand there

    private abstract static class Cursor {
        private int[] bytes = new int[1];
        private int end;
        private int at;
        private int now = -1;

        final void start(Texts text, int length) {
            bytes = text.bytes;
            end = Math.max(0, Math.min(length, text.bytes.length));
            at = 0;
            now = end > 0 ? text.bytes[0] : -1;
        }

        final int place() {
            return at;
        }

        final boolean isAtEnd() {
            return at >= end;
        }

        /** The byte at the place, or -1 at the end. */
        final int now() {
            return now;
        }

        final boolean isDigit() {
            return now >= '0' && now <= '9';
        }

        final void step() {
            at = Math.min(at + 1, end);
            now = at >= 0 && at < end && at < bytes.length ? bytes[at] : -1;
        }

        final void stepBack(int place) {
            at = Math.max(0, Math.min(place, end));
            now = at < end && at < bytes.length ? bytes[at] : -1;
        }

        /** Reads a text from its first " into a row, and stops at its closing one, which the caller may refuse. */
        final boolean readText(Texts target, int row) {
            if (now != '"') {
                return false;
            }
            target.empty(row);
            step();
            for (int i = 0; i < LONGEST_TEXT && now != '"'; i++) {
                int value = now;
                if (now == '\\') {
                    step();
                    value = now == 'n' ? NEW_LINE : now == '"' || now == '\\' ? now : -1;
                    if (value < 0) {
                        return false;
                    }
                } else if (now < 32 || now > 126) {
                    return false;
                }
                target.add(row, value);
                step();
            }
            return now == '"';
        }
    }

    // ---- what the readers of the dialects share. Each value is kept as it is read, those too that are left out or
    // that another one takes the place of: they count, and can have names.

    private abstract static class TextReader extends Cursor {
        final Document made;
        private final boolean[] moved = new boolean[MOST_VALUES];
        private final int[] instead = new int[MOST_VALUES];
        private boolean comments;
        private boolean lastCommas;
        private int twins;

        TextReader(Document made) {
            this.made = made;
        }

        final void arrange(boolean withComments, boolean withLastCommas, int withTwins) {
            comments = withComments;
            lastCommas = withLastCommas;
            twins = withTwins;
            made.cutTo(0);
            for (int i = 0; i < MOST_VALUES; i++) {
                moved[i] = false;
                instead[i] = -1;
            }
            forget();
        }

        /** Reads all of the text; without success, place() is that of the fault. */
        abstract boolean readWhole();

        /** Forgets what a reader keeps of the text ahead. */
        abstract void forget();

        final boolean canEndWithComma() {
            return lastCommas;
        }

        final void skipBlanks() {
            boolean comment = false;
            for (int i = 0; i < LONGEST_PAGE && !isAtEnd(); i++) {
                comment = now() != NEW_LINE && (comment || comments && now() == '#');
                if (!comment && now() != ' ' && now() != NEW_LINE) {
                    return;
                }
                step();
            }
        }

        /** Reads nothing, a truth, a number or a text as in braces; there is room for it. */
        final boolean readPlain(int level) {
            switch (now()) {
                case 'n':
                    made.add('z', level);
                    return readWord("null");
                case 't':
                    made.giveNumber(made.add('b', level), 1, 0, false);
                    return readWord("true");
                case 'f':
                    made.add('b', level);
                    return readWord("false");
                case '"':
                    if (!readText(made.texts(), made.add('t', level))) {
                        return false;
                    }
                    step();
                    return true;
                default:
                    return readNumber(level);
            }
        }

        private boolean readWord(String word) {
            for (int i = 0; i < word.length(); i++) {
                if (now() != word.charAt(i)) {
                    return false;
                }
                step();
            }
            return true;
        }

        final boolean readNumber(int level) {
            boolean minus = now() == '-';
            if (minus) {
                step();
            }
            if (!isDigit()) {
                return false;
            }
            boolean zero = now() == '0';
            int number = now() - '0';
            int digits = 1;
            step();
            for (; !zero && digits < MOST_DIGITS && isDigit(); digits++) {
                number = 10 * number + now() - '0';
                step();
            }
            int behind = 0;
            // Behind nine digits no point can stand, as one more digit would have to follow it.
            if (now() == '.' && digits < MOST_DIGITS) {
                step();
                if (!isDigit()) {
                    return false;
                }
                for (; behind < MOST_BEHIND && digits + behind < MOST_DIGITS && isDigit(); behind++) {
                    number = 10 * number + now() - '0';
                    step();
                }
            }
            made.giveNumber(made.add('n', level), minus ? -number : number, behind, minus && number == 0);
            return true;
        }

        /**
         * Reads the key of the value that comes next in a map. Returns the value that the map has by it already, -1
         * if there is none, or FAULT.
         */
        final int readKey(int map) {
            int row = made.count();
            if (!readText(made.keys(), row)) {
                return FAULT;
            }
            int earlier = made.valueBy(map, made.keys(), row);
            if (earlier >= 0 && twins == 0) {
                return FAULT;
            }
            step();
            return earlier;
        }

        /** Tells a value that was read for a key to be left out, or to take the place of the one ahead. */
        final void settle(int earlier, int value) {
            if (earlier < 0 || earlier >= MOST_VALUES || value < 0 || value >= MOST_VALUES) {
                return;
            }
            moved[value] = true;
            if (twins == 2) {
                instead[earlier] = value;
            }
        }

        /** Makes a document what was read. */
        final void giveTo(Document target) {
            target.cutTo(0);
            addSettled(target, 0, 1);
        }

        /** Adds a value that was read, as its twins were settled, to a document, which can be the one that is made. */
        final boolean copyTo(Document target, int i, int level) {
            return addSettled(target, i, level);
        }

        private boolean addSettled(Document target, int i, int level) {
            int end = made.endOf(i);
            if (level > DEEPEST || !target.addLike(made, i, level)) {
                return false;
            }
            for (int j = i + 1; j < end && j < MOST_VALUES; j++) {
                if (made.levelAt(j) != made.levelAt(i) + 1 || moved[j]) {
                    continue;
                }
                target.nameNext(made.keys(), j);
                if (!addSettled(target, instead[j] >= 0 ? instead[j] : j, level + 1)) {
                    return false;
                }
            }
            return true;
        }
    }

    private static final class BraceReader extends TextReader {
        BraceReader(Document made) {
            super(made);
        }

        void forget() {
        }

        boolean readWhole() {
            skipBlanks();
            if (!readValue(1)) {
                return false;
            }
            skipBlanks();
            return isAtEnd();
        }

        private boolean readValue(int level) {
            if (!made.hasRoom(level)) {
                return false;
            }
            return now() == '[' || now() == '{' ? readHolder(level) : readPlain(level);
        }

        private boolean readHolder(int level) {
            boolean map = now() == '{';
            int close = map ? '}' : ']';
            int holder = made.add(map ? 'm' : 'r', level);
            step();
            skipBlanks();
            boolean canEnd = true;
            for (int i = 0; i <= MOST_VALUES; i++) {
                if (canEnd && now() == close) {
                    step();
                    return true;
                }
                int earlier = map ? readKey(holder) : -1;
                if (earlier == FAULT || map && !readColon()) {
                    return false;
                }
                int value = made.count();
                if (!readValue(level + 1)) {
                    return false;
                }
                settle(earlier, value);
                skipBlanks();
                canEnd = now() == close || canEndWithComma();
                if (now() == ',') {
                    step();
                    skipBlanks();
                } else if (now() != close) {
                    return false;
                }
            }
            return false;
        }

        private boolean readColon() {
            skipBlanks();
            if (now() != ':') {
                return false;
            }
            step();
            skipBlanks();
            return true;
        }
    }

    private static final class ParenReader extends TextReader {
        private final int[] named = new int[10];
        // Where nothing, a truth or a number ended last: none of these can begin there.
        private int tight = -1;

        ParenReader(Document made) {
            super(made);
        }

        void forget() {
            Arrays.fill(named, -1);
            tight = -1;
        }

        boolean readWhole() {
            skipBlanks();
            if (!readValue(1)) {
                return false;
            }
            skipBlanks();
            return isAtEnd();
        }

        private boolean readValue(int level) {
            int names = 0;
            for (int i = 0; i < LONGEST_PIECES && now() == '&'; i++) {
                step();
                if (!isDigit()) {
                    return false;
                }
                names |= 1 << now() - '0';
                step();
                skipBlanks();
            }
            int value = made.count();
            if (now() == '*') {
                step();
                if (!copyTo(made, valueNamed(now() - '0'), level)) {
                    return false;
                }
                step();
            } else if (!made.hasRoom(level) || !(now() == '(' ? readHolder(level) : readPiece(level))) {
                return false;
            }
            for (int i = 0; i < named.length; i++) {
                if ((names >> i & 1) == 1) {
                    named[i] = value;
                }
            }
            return true;
        }

        private int valueNamed(int name) {
            return name >= 0 && name < named.length ? named[name] : -1;
        }

        /** Reads any value but a row or map. */
        private boolean readPiece(int level) {
            if (now() == '"') {
                return readPlain(level);
            }
            if (place() == tight) {
                return false;
            }
            if (now() == 'n') {
                made.add('z', level);
                step();
            } else if (now() == 'y' || now() == 'f') {
                made.giveNumber(made.add('b', level), now() == 'y' ? 1 : 0, 0, false);
                step();
            } else if (!readNumber(level)) {
                return false;
            }
            tight = place();
            return true;
        }

        private boolean readHolder(int level) {
            int holder = made.add('r', level);
            step();
            boolean map = now() == ':';
            if (map) {
                made.become(holder, 'm');
                step();
            }
            for (int i = 0; i <= MOST_VALUES; i++) {
                skipBlanks();
                if (now() == ')') {
                    step();
                    return true;
                }
                int earlier = map ? readKey(holder) : -1;
                if (earlier == FAULT) {
                    return false;
                }
                if (map) {
                    skipBlanks();
                }
                int value = made.count();
                if (!readValue(level + 1)) {
                    return false;
                }
                settle(earlier, value);
            }
            return false;
        }
    }

    private static final class LineReader extends TextReader {
        // A value that was led to, ahead of the byte that tells what it is.
        private static final char OPEN = '?';

        LineReader(Document made) {
            super(made);
        }

        void forget() {
        }

        boolean readWhole() {
            made.add(OPEN, 1);
            for (int i = 0; i <= MOST_VALUES; i++) {
                int value = readSteps();
                if (value < 0 || !readLeaf(value)) {
                    return false;
                }
                if (isAtEnd()) {
                    return true;
                }
                if (now() != NEW_LINE) {
                    return false;
                }
                step();
                if (isAtEnd()) {
                    return true;
                }
            }
            return false;
        }

        /** Reads what leads to a value, up to the =, and returns the value, or -1. */
        private int readSteps() {
            int value = 0;
            for (int level = 1; level <= DEEPEST && value >= 0; level++) {
                char kind = made.kindAt(value);
                if (now() == '=') {
                    return kind == OPEN ? value : -1;
                }
                char wanted = now() == '[' ? 'r' : 'm';
                boolean goesOn = kind == OPEN || kind == wanted && made.countIn(value) > 0;
                if (now() != '[' && now() != '.' || !goesOn || level == DEEPEST) {
                    return -1;
                }
                made.become(value, wanted);
                value = wanted == 'r' ? readIndex(value, level) : readName(value, level);
            }
            return -1;
        }

        private int readIndex(int row, int level) {
            int start = place();
            int many = made.countIn(row);
            int last = made.lastIn(row);
            boolean again = last >= 0 && last + 1 < made.count();
            int index = 0;
            step();
            for (int i = 0; i <= 3; i++) {
                if (now() == ']' && i > 0 && index == many) {
                    step();
                    return open(start, level);
                }
                if (now() == ']' && i > 0 && again && index == many - 1) {
                    step();
                    return last;
                }
                if (!isDigit() || i > 0 && index == 0) {
                    return -1;
                }
                index = 10 * index + now() - '0';
                if (!isBeginOf(index, many) && !(again && isBeginOf(index, many - 1))) {
                    return -1;
                }
                step();
            }
            return -1;
        }

        private static boolean isBeginOf(int digits, int index) {
            return digits == index || digits > 0 && (digits == index / 10 || digits == index / 100);
        }

        private int readName(int map, int level) {
            int start = place();
            int row = made.count();
            step();
            if (!readText(made.keys(), row)) {
                return -1;
            }
            int earlier = made.valueBy(map, made.keys(), row);
            // Only the value that came last can be gone on in, if something is in it.
            if (earlier >= 0 && (earlier != made.lastIn(map) || earlier + 1 >= row)) {
                return -1;
            }
            step();
            return earlier >= 0 ? earlier : open(start, level);
        }

        private int open(int start, int level) {
            int value = made.add(OPEN, level + 1);
            if (value < 0) {
                stepBack(start);
            }
            return value;
        }

        private boolean readLeaf(int value) {
            int level = made.levelAt(value);
            made.cutTo(value);
            step();
            if (!made.hasRoom(level)) {
                return false;
            }
            if (now() != '[' && now() != '{') {
                return readPlain(level);
            }
            boolean row = now() == '[';
            made.add(row ? 'r' : 'm', level);
            step();
            if (now() != (row ? ']' : '}')) {
                return false;
            }
            step();
            return true;
        }
    }

    // ---- what a path selects from a document

    private static final class PathFinder extends Cursor {
        private int[] found = new int[MOST_VALUES];
        private int[] next = new int[MOST_VALUES];
        private final boolean[] chosen = new boolean[MOST_VALUES];
        private final Texts key = new Texts(1, LONGEST_TEXT);
        private int many;
        private int index;

        /** Returns how many values the path selects, or with a fault -1 less its place. */
        int find(Document document, Texts path) {
            start(path, path.lengthOf(0));
            forget();
            found[0] = 0;
            chosen[0] = true;
            many = 1;
            for (int i = 0; i < LONGEST_TAPE && !isAtEnd(); i++) {
                int kind = now();
                if (!readStep(kind)) {
                    return -1 - place();
                }
                follow(document, kind);
            }
            return many;
        }

        private void forget() {
            many = 0;
            for (int i = 0; i < chosen.length; i++) {
                chosen[i] = false;
            }
        }

        private boolean readStep(int kind) {
            switch (kind) {
                case '*':
                case '?':
                    step();
                    return true;
                case '.':
                    step();
                    return readName();
                case '[':
                    step();
                    return readIndex();
                default:
                    return false;
            }
        }

        int foundAt(int i) {
            return i >= 0 && i < many && i < found.length ? found[i] : -1;
        }

        boolean isChosen(int i) {
            return i >= 0 && i < chosen.length && chosen[i];
        }

        private boolean readName() {
            if (!readText(key, 0)) {
                return false;
            }
            step();
            return true;
        }

        private boolean readIndex() {
            index = 0;
            int digits = 0;
            for (; digits < 3 && isDigit() && !(digits > 0 && index == 0); digits++) {
                index = 10 * index + now() - '0';
                step();
            }
            if (digits == 0 || now() != ']') {
                return false;
            }
            step();
            return true;
        }

        private void follow(Document document, int kind) {
            int[] from = found;
            int fromMany = many;
            found = next;
            next = from;
            forget();
            for (int i = 0; i < fromMany && i < from.length; i++) {
                followFrom(document, from[i], kind);
            }
        }

        private void followFrom(Document document, int value, int kind) {
            int end = document.endOf(value);
            if (kind == '.') {
                choose(document.kindAt(value) == 'm' ? document.valueBy(value, key, 0) : -1);
            } else if (kind == '[') {
                choose(document.kindAt(value) == 'r' ? document.valueIn(value, index) : -1);
            } else {
                for (int i = value; i < end; i++) {
                    choose(kind == '?' || document.levelAt(i) == document.levelAt(value) + 1 ? i : -1);
                }
            }
        }

        private void choose(int value) {
            if (value >= 0 && value < chosen.length && !chosen[value] && many < found.length) {
                chosen[value] = true;
                found[many] = value;
                many++;
            }
        }
    }

    // ---- writing

    private static final class TextWriter {
        private final Texts page = new Texts(1, LONGEST_PAGE);
        private final int[] trail = new int[DEEPEST];
        private final int[] places = new int[DEEPEST];
        private boolean parens;
        private boolean rising;
        private boolean shortest;

        /** Writes a document; shortest are numbers without the notation that makes no other number. */
        Texts written(Document document, char dialect, boolean byRisingKeys, boolean shortestNumbers) {
            page.empty(0);
            rising = byRisingKeys;
            shortest = shortestNumbers;
            parens = dialect == 'p';
            if (dialect == 'l') {
                writeLines(document, 0, 1);
            } else {
                writeNested(document, 0, 1);
            }
            return page;
        }

        private void writeNested(Document document, int i, int level) {
            if (level > DEEPEST || !document.isHolder(i)) {
                writePlain(document, i);
                return;
            }
            boolean map = document.kindAt(i) == 'm';
            if (parens) {
                writeWord(map ? "(:" : "(");
            } else {
                page.add(0, map ? '{' : '[');
            }
            int value = following(document, i, -1);
            for (int n = 0; n < MOST_VALUES && value >= 0; n++) {
                if (n > 0) {
                    page.add(0, parens ? ' ' : ',');
                }
                if (map) {
                    writeText(document.keys(), value);
                    page.add(0, parens ? ' ' : ':');
                }
                writeNested(document, value, level + 1);
                value = following(document, i, value);
            }
            page.add(0, parens ? ')' : map ? '}' : ']');
        }

        private void writeLines(Document document, int i, int level) {
            int value = following(document, i, -1);
            if (level > DEEPEST || value < 0) {
                writeLine(document, i, level);
                return;
            }
            for (int n = 0; n < MOST_VALUES && value >= 0 && level >= 1; n++) {
                trail[level - 1] = value;
                places[level - 1] = n;
                writeLines(document, value, level + 1);
                value = following(document, i, value);
            }
        }

        private void writeLine(Document document, int i, int level) {
            int holder = 0;
            for (int n = 0; n < level - 1 && n < DEEPEST; n++) {
                if (document.kindAt(holder) == 'm') {
                    page.add(0, '.');
                    writeText(document.keys(), trail[n]);
                } else {
                    page.add(0, '[');
                    writeDigits(places[n], 0);
                    page.add(0, ']');
                }
                holder = trail[n];
            }
            page.add(0, '=');
            if (document.isHolder(i)) {
                writeWord(document.kindAt(i) == 'm' ? "{}" : "[]");
            } else {
                writePlain(document, i);
            }
            page.add(0, NEW_LINE);
        }

        /** The value of a row or map that is written next, or -1. */
        private int following(Document document, int holder, int previous) {
            boolean byKeys = rising && document.kindAt(holder) == 'm';
            Texts keys = document.keys();
            int best = -1;
            int end = document.endOf(holder);
            for (int j = holder + 1; j < end; j++) {
                if (document.levelAt(j) != document.levelAt(holder) + 1) {
                    continue;
                }
                if (!byKeys && j > previous) {
                    return j;
                }
                if (byKeys && (previous < 0 || keys.compare(j, keys, previous) > 0)
                        && (best < 0 || keys.compare(j, keys, best) < 0)) {
                    best = j;
                }
            }
            return best;
        }

        private void writePlain(Document document, int i) {
            switch (document.kindAt(i)) {
                case 'z':
                    writeWord(parens ? "n" : "null");
                    break;
                case 'b':
                    writeTruth(document.numberAt(i) == 1);
                    break;
                case 'n':
                    writeNumber(document, i);
                    break;
                default:
                    writeText(document.texts(), i);
                    break;
            }
        }

        private void writeTruth(boolean truth) {
            if (parens) {
                page.add(0, truth ? 'y' : 'f');
            } else {
                writeWord(truth ? "true" : "false");
            }
        }

        private void writeWord(String word) {
            for (int i = 0; i < word.length(); i++) {
                page.add(0, word.charAt(i));
            }
        }

        private void writeText(Texts texts, int row) {
            page.add(0, '"');
            for (int i = 0; i < texts.lengthOf(row); i++) {
                int value = texts.at(row, i);
                if (value == '"' || value == '\\' || value == NEW_LINE) {
                    page.add(0, '\\');
                }
                page.add(0, value == NEW_LINE ? 'n' : value);
            }
            page.add(0, '"');
        }

        private void writeNumber(Document document, int i) {
            int number = document.numberAt(i);
            int behind = document.behindAt(i);
            if (number < 0 || document.isMinus(i) && !shortest) {
                page.add(0, '-');
            }
            for (int n = 0; shortest && n < MOST_BEHIND && behind > 0 && number % 10 == 0; n++) {
                number /= 10;
                behind--;
            }
            writeDigits(Math.abs(number), behind);
        }

        private void writeDigits(int number, int behind) {
            int width = behind + 1;
            while (width < TENS.length && tens(width) <= number) {
                width++;
            }
            for (int n = width - 1; n >= 0; n--) {
                page.add(0, '0' + number / tens(n) % 10);
                if (n == behind && behind > 0) {
                    page.add(0, '.');
                }
            }
        }
    }

    // ---- new documents out of others: they are woven apart, and kept only if they are not too much

    private static final class Weaver {
        private Document woven = new Document();
        private boolean tooMuch;
        private int conflicts;
        // The sides of a merge.
        private Document origin = woven;
        private Document one = woven;
        private Document two = woven;

        boolean isTooMuch() {
            return tooMuch;
        }

        /** Gives what was woven for a document that is used for weaving from now on. */
        Document exchange(Document other) {
            Document given = woven;
            woven = other;
            return given;
        }

        private void start() {
            woven.cutTo(0);
            tooMuch = false;
            conflicts = 0;
        }

        private void addAll(Document from, int i, int level) {
            if (!woven.addAll(from, i, level)) {
                tooMuch = true;
            }
        }

        private void addNew(char kind, int level) {
            if (woven.add(kind, level) < 0) {
                tooMuch = true;
            }
        }

        private void addLike(Document from, int i) {
            woven.nameNext(from.keys(), i);
            if (!woven.addLike(from, i, from.levelAt(i))) {
                tooMuch = true;
            }
        }

        int replaced(Document document, PathFinder chosen, Document by) {
            start();
            int many = 0;
            int skipped = 0;
            for (int i = 0; i < document.count(); i++) {
                if (i < skipped) {
                    continue;
                }
                if (chosen.isChosen(i)) {
                    woven.nameNext(document.keys(), i);
                    addAll(by, 0, document.levelAt(i));
                    skipped = document.endOf(i);
                    many++;
                } else {
                    addLike(document, i);
                }
            }
            return many;
        }

        int removed(Document document, PathFinder chosen) {
            start();
            int many = 0;
            int skipped = 0;
            for (int i = 0; i < document.count(); i++) {
                if (i < skipped) {
                    continue;
                }
                if (i > 0 && chosen.isChosen(i)) {
                    skipped = document.endOf(i);
                    many++;
                } else {
                    addLike(document, i);
                }
            }
            return many;
        }

        int filled(Document document, PathFinder chosen, Texts key, Document by) {
            start();
            fill(document, 0, chosen, key, by);
            int many = 0;
            for (int i = 0; i < document.count(); i++) {
                if (chosen.isChosen(i) && document.isHolder(i)) {
                    many++;
                }
            }
            return many;
        }

        private void fill(Document document, int i, PathFinder chosen, Texts key, Document by) {
            int level = document.levelAt(i);
            if (level < 1 || level > DEEPEST) {
                return;
            }
            addLike(document, i);
            boolean filled = chosen.isChosen(i) && document.isHolder(i);
            int old = filled && document.kindAt(i) == 'm' ? document.valueBy(i, key, 0) : -1;
            int end = document.endOf(i);
            for (int j = i + 1; j < end; j++) {
                if (document.levelAt(j) != level + 1) {
                    continue;
                }
                if (j == old) {
                    woven.nameNext(key, 0);
                    addAll(by, 0, level + 1);
                } else {
                    fill(document, j, chosen, key, by);
                }
            }
            if (filled && old < 0) {
                woven.nameNext(key, 0);
                addAll(by, 0, level + 1);
            }
        }

        boolean fitsChanged(Document document, PathFinder chosen, char op, int number) {
            for (int i = 0; i < document.count(); i++) {
                if (chosen.isChosen(i) && document.kindAt(i) == 'n') {
                    long digits = digitsAfter(document.numberAt(i), op, number);
                    if (digits > LARGEST || digits < -LARGEST) {
                        return false;
                    }
                }
            }
            return true;
        }

        int changed(Document document, PathFinder chosen, char op, int number) {
            int many = 0;
            for (int i = 0; i < document.count(); i++) {
                if (chosen.isChosen(i) && document.kindAt(i) == 'n' && changeOne(document, i, op, number)) {
                    many++;
                }
            }
            return many;
        }

        private static long digitsAfter(int digits, char op, int number) {
            switch (op) {
                case '+':
                    return (long) digits + number;
                case '*':
                    return (long) digits * number;
                case '-':
                    return -(long) digits;
                default:
                    return digits;
            }
        }

        private static boolean changeOne(Document document, int i, char op, int number) {
            int before = document.numberAt(i);
            int behindBefore = document.behindAt(i);
            boolean minusBefore = document.isMinus(i);
            int after = (int) digitsAfter(before, op, number);
            int behind = behindBefore;
            boolean minus = false;
            if (op == 'c') {
                behind = Math.min(behindBefore, number);
                after = before / tens(behindBefore - behind);
                minus = after == 0 && (before < 0 || minusBefore);
            } else if (op == '-') {
                minus = before == 0 && !minusBefore;
            }
            document.giveNumber(i, after, behind, minus);
            return after != before || behind != behindBefore || minus != minusBefore;
        }

        int turnedToColumns(Document document) {
            start();
            addNew('m', 1);
            int many = 0;
            for (int i = 1; i < document.count(); i++) {
                if (document.levelAt(i) == 3 && isNewKey(document, i)) {
                    addColumn(document, i);
                    many++;
                }
            }
            return many;
        }

        // Keys are once in their own map, so one that came already is in a map ahead.
        private static boolean isNewKey(Document document, int value) {
            for (int i = 1; i < value; i++) {
                if (document.levelAt(i) == 3 && document.keys().isSame(i, document.keys(), value)) {
                    return false;
                }
            }
            return true;
        }

        private void addColumn(Document document, int named) {
            woven.nameNext(document.keys(), named);
            addNew('r', 2);
            for (int i = 1; i < document.count(); i++) {
                if (document.levelAt(i) != 2) {
                    continue;
                }
                int value = document.valueBy(i, document.keys(), named);
                if (value < 0) {
                    addNew('z', 3);
                } else {
                    addAll(document, value, 3);
                }
            }
        }

        int turnedToRows(Document document) {
            start();
            addNew('r', 1);
            int many = document.countIn(1);
            for (int i = 0; i < many; i++) {
                addNew('m', 2);
                for (int j = 1; j < document.count(); j++) {
                    int value = document.levelAt(j) == 2 ? document.valueIn(j, i) : -1;
                    if (value >= 0 && document.kindAt(value) != 'z') {
                        woven.nameNext(document.keys(), j);
                        addAll(document, value, 3);
                    }
                }
            }
            return many;
        }

        /** Returns the number of conflicts. */
        int merged(Document from, Document first, Document second) {
            start();
            origin = from;
            one = first;
            two = second;
            mergeOne(0, 0, 0, 1);
            return conflicts;
        }

        // A place below 0 stands for a value that is not there.
        private void mergeOne(int from, int first, int second, int level) {
            if (level > DEEPEST) {
                return;
            }
            if (Likeness.isSame(one, first, two, second, false) || Likeness.isSame(two, second, origin, from, false)) {
                take(one, first, level);
            } else if (Likeness.isSame(one, first, origin, from, false)) {
                take(two, second, level);
            } else if (origin.kindAt(from) == 'm' && one.kindAt(first) == 'm' && two.kindAt(second) == 'm') {
                addNew('m', level);
                mergeKeys(from, first, second, level);
            } else {
                conflicts++;
                take(one, first, level);
            }
        }

        private void take(Document document, int i, int level) {
            if (i >= 0) {
                addAll(document, i, level);
            }
        }

        private void mergeKeys(int from, int first, int second, int level) {
            int end = one.endOf(first);
            for (int i = first + 1; i < end; i++) {
                if (one.levelAt(i) == one.levelAt(first) + 1) {
                    woven.nameNext(one.keys(), i);
                    mergeOne(origin.valueBy(from, one.keys(), i), i, two.valueBy(second, one.keys(), i), level + 1);
                }
            }
            end = two.endOf(second);
            for (int i = second + 1; i < end; i++) {
                if (two.levelAt(i) == two.levelAt(second) + 1 && one.valueBy(first, two.keys(), i) < 0) {
                    woven.nameNext(two.keys(), i);
                    mergeOne(origin.valueBy(from, two.keys(), i), -1, i, level + 1);
                }
            }
        }
    }

    // ---- how alike values are

    private static final class Likeness {
        private Likeness() {
        }

        /** Whether two values are the same, if told so with the same notations; a place below 0 is no value. */
        static boolean isSame(Document one, int i, Document other, int j, boolean notations) {
            return i < 0 || j < 0 ? i < 0 && j < 0 : isAlike(one, i, other, j, notations, 1);
        }

        /** At how many places two documents differ. */
        static int apart(Document one, Document other) {
            return countApart(one, 0, other, 0, 1);
        }

        private static boolean isAlike(Document one, int i, Document other, int j, boolean notations, int level) {
            char kind = one.kindAt(i);
            if (level > DEEPEST || kind != other.kindAt(j)) {
                return false;
            }
            switch (kind) {
                case 'b':
                    return one.numberAt(i) == other.numberAt(j);
                case 'n':
                    return scaled(one, i) == scaled(other, j) && (!notations
                            || one.behindAt(i) == other.behindAt(j) && one.isMinus(i) == other.isMinus(j));
                case 't':
                    return one.texts().isSame(i, other.texts(), j);
                case 'r':
                case 'm':
                    break;
                default:
                    return true;
            }
            if (one.countIn(i) != other.countIn(j)) {
                return false;
            }
            int end = one.endOf(i);
            int place = 0;
            for (int k = i + 1; k < end; k++) {
                if (one.levelAt(k) != one.levelAt(i) + 1) {
                    continue;
                }
                int its = kind == 'm' ? other.valueBy(j, one.keys(), k) : other.valueIn(j, place);
                if (its < 0 || !isAlike(one, k, other, its, notations, level + 1)) {
                    return false;
                }
                place++;
            }
            return true;
        }

        private static long scaled(Document document, int i) {
            return (long) document.numberAt(i) * tens(MOST_BEHIND - document.behindAt(i));
        }

        private static int countApart(Document one, int i, Document other, int j, int level) {
            char kind = one.kindAt(i);
            boolean maps = kind == 'm' && other.kindAt(j) == 'm';
            boolean rows = kind == 'r' && other.kindAt(j) == 'r' && one.countIn(i) == other.countIn(j);
            if (level > DEEPEST || !maps && !rows) {
                return isSame(one, i, other, j, false) ? 0 : 1;
            }
            int sum = 0;
            int common = 0;
            int place = 0;
            int end = one.endOf(i);
            for (int k = i + 1; k < end; k++) {
                if (one.levelAt(k) != one.levelAt(i) + 1) {
                    continue;
                }
                int its = maps ? other.valueBy(j, one.keys(), k) : other.valueIn(j, place);
                sum += its < 0 ? 1 : countApart(one, k, other, its, level + 1);
                common += its < 0 ? 0 : 1;
                place++;
            }
            return sum + other.countIn(j) - common;
        }
    }
}
