/**
 * Each row "Throws" of the document: the call throws it, and the mill looks behind it like one on which it was not
 * called. Where two or more apply, the one that is listed first is thrown.
 */
final class Refusals {
    interface Call {
        Object answer(RosettaMill mill);
    }

    private static final int MISSING = 7;
    private static final int SMALL = 0;
    private static final int LONG = 1;
    private static final int DEEP = 2;
    private static final int FULL = 3;
    private static final int NINES = 4;
    private static final int MAPS = 5;
    private static final int ROWS = 6;
    // Tapes: a path, what is no path but a key, what is neither a path nor a key, and 240 bytes.
    private static final int PATH = 0;
    private static final int KEY = 1;
    private static final int NO_KEY = 2;
    private static final int LAST = 3;
    private static final String TEN_TEXTS = "\"abcdefghijklmnopqrst\",".repeat(10);
    private static final String[] DOCUMENTS = {"{\"a\":[1,{\"k\":2}],\"b\":-0.50}", "[" + TEN_TEXTS + "123456789]",
        "[[[[[[[[]]]]]]]]", "[" + "0,".repeat(198) + "0]", "[999999999,1.50,-999999999,\"x\"]", maps(), "{\"a\":["
            + "0,".repeat(99) + "0]}"};
    private static final String NINETY_NINE = "0,".repeat(98) + "0";
    private static final String[] SIDES = {"{}", "{\"a\":[" + NINETY_NINE + "]}", "{\"b\":[" + NINETY_NINE + "]}", "5"};

    private Refusals() {
    }

    static void all() {
        tapes();
        settings();
        reading();
        writing();
        selecting();
        selected();
        replacing();
        removing();
        putting();
        changing();
        turning();
        merging();
        asking();
        sharing();
        listedFirst();
    }

    /** Fourteen maps with other keys: too many for columns. */
    private static String maps() {
        StringBuilder maps = new StringBuilder();
        for (char key = 'a'; key < 'o'; key++) {
            maps.append(key == 'a' ? "[" : ",").append("{\"").append(key).append("\":1}");
        }
        return maps.append("]").toString();
    }

    private static RosettaMill mill(String[] documents, boolean underWay, String path) {
        Bench bench = Reads.bench("bc1 be1 bt2 pc1 ps1 pt1 ls1");
        for (int i = 0; i < documents.length; i++) {
            bench.readLong(documents[i], 'b', i);
        }
        if (documents.length > 0) {
            bench.select(SMALL, "?");
        }
        if (underWay) {
            // 479 bytes: one more can come.
            bench.mill.begin('b');
            bench.lay(0, "[1" + " ".repeat(238));
            bench.mill.piece(0);
            bench.lay(0, " ".repeat(238) + "]");
            bench.mill.piece(0);
        }
        bench.lay(PATH, path);
        bench.lay(KEY, "key");
        bench.lay(NO_KEY, "a key that is too long");
        bench.lay(LAST, " ".repeat(238) + "1]");
        return bench.mill;
    }

    private static void refused(Class<? extends RuntimeException> due, String[] documents, boolean underWay,
            String path, Call call) {
        RosettaMill mill = mill(documents, underWay, path);
        Bench.fails(Doc.told() + (underWay ? "with a text under way" : ""), due, () -> call.answer(mill));
        String looks = Look.apart(Look.at(mill), Look.at(mill(documents, underWay, path)));
        Bench.due(Doc.told() + "it changes nothing, the mill looks", looks, "the same");
    }

    private static void refused(Class<? extends RuntimeException> due, String[] documents, boolean underWay,
            Call call) {
        refused(due, documents, underWay, "?", call);
    }

    private static void refused(Class<? extends RuntimeException> due, Call... calls) {
        refusedWith("?", due, calls);
    }

    private static void refusedWith(String path, Class<? extends RuntimeException> due, Call... calls) {
        for (Call call : calls) {
            refused(due, DOCUMENTS, false, path, call);
            refused(due, DOCUMENTS, true, path, call);
        }
    }

    private static void says(int promise, String words) {
        Doc.says(promise, words);
    }

    private static void noTape(int promise, Call... calls) {
        says(promise, "Throws `IndexOutOfBoundsException` if there is no such tape");
        refused(Ranges.INDEX, calls);
    }

    private static void noDocument(int promise, String rest, Call... calls) {
        says(promise, "Throws `NoSuchElementException` if there is no such document" + rest);
        refused(Ranges.NONE, calls);
    }

    private static void noPlace(int promise, Call... calls) {
        says(promise, "Throws `IndexOutOfBoundsException` if there is no document to that it can become");
        refused(Ranges.INDEX, calls);
    }

    private static void tapes() {
        says(0, "Exceptions. A method that throws an exception changes nothing.");
        noTape(2, x -> x.type(-1, 0, 1), x -> x.type(4, 0, 1));
        says(2, "Throws `IllegalArgumentException` if the number is out of range");
        refused(Ranges.ARGUMENT, x -> x.type(0, 0, 0), x -> x.type(0, 0, 5), x -> x.type(0, 0, -1));
        says(2, "Throws `IllegalStateException` if the tape would be too long");
        refused(Ranges.STATE, x -> x.type(LAST, 0, 1), x -> x.type(LAST, 0, 4));
        noTape(3, x -> x.clear(-1), x -> x.clear(4));
        noTape(4, x -> x.length(-1), x -> x.length(4));
        says(5, "Throws `IndexOutOfBoundsException` if there is no such tape or byte");
        refused(Ranges.INDEX, x -> x.byteAt(-1, 0), x -> x.byteAt(4, 0), x -> x.byteAt(0, -1), x -> x.byteAt(0, 1),
            x -> x.byteAt(LAST, 240));
    }

    private static void settings() {
        says(6, "Throws `IllegalArgumentException` if there is no such dialect or setting, or the value is out of "
            + "range");
        refused(Ranges.ARGUMENT, x -> x.set('x', 's', 0), x -> x.set('l', 'c', 0), x -> x.set('l', 't', 0),
            x -> x.set('p', 'e', 0), x -> x.set('l', 'e', 0), x -> x.set('b', 'x', 0), x -> x.set('b', 'c', 2),
            x -> x.set('b', 'e', -1), x -> x.set('p', 's', 2), x -> x.set('l', 's', 2), x -> x.set('b', 't', 3),
            x -> x.set('p', 't', -1));
        says(6, "Throws `IllegalStateException` if a text is read in pieces");
        for (String one : "bc be bs bt pc ps pt ls".split(" ")) {
            for (int value = 0; value <= 1; value++) {
                int other = value;
                refused(Ranges.STATE, DOCUMENTS, true, x -> x.set(one.charAt(0), one.charAt(1), other));
            }
        }
    }

    private static void reading() {
        says(7, "Throws `IndexOutOfBoundsException` if there is no such tape or document");
        refused(Ranges.INDEX, x -> x.read(-1, 'b', 0), x -> x.read(4, 'b', 0), x -> x.read(LAST, 'b', -1),
            x -> x.read(LAST, 'b', 8));
        says(7, "Throws `IllegalArgumentException` if there is no such dialect");
        refused(Ranges.ARGUMENT, x -> x.read(LAST, 'x', 0), x -> x.read(LAST, 's', 7));
        says(8, "Throws `IllegalArgumentException` if there is no such dialect");
        refused(Ranges.ARGUMENT, x -> x.begin('x'), x -> x.begin('B'));
        noTape(9, x -> x.piece(-1), x -> x.piece(4));
        says(9, "Throws `IllegalStateException` if no text is under way, or it would have more than 480 bytes");
        refused(Ranges.STATE, DOCUMENTS, false, x -> x.piece(PATH));
        refused(Ranges.STATE, DOCUMENTS, true, "12", x -> x.piece(PATH));
        refused(Ranges.STATE, DOCUMENTS, true, x -> x.piece(KEY));
        refused(Ranges.STATE, DOCUMENTS, true, x -> x.piece(LAST));
        says(10, "Throws `IndexOutOfBoundsException` if there is no such document");
        refused(Ranges.INDEX, x -> x.finish(-1), x -> x.finish(8));
        says(10, "Throws `IllegalStateException` if no text is under way");
        refused(Ranges.STATE, DOCUMENTS, false, x -> x.finish(0));
    }

    private static void writing() {
        noTape(11, x -> x.write(SMALL, 'b', -1), x -> x.write(SMALL, 'b', 4));
        noDocument(11, "", x -> x.write(MISSING, 'b', 0), x -> x.write(-1, 'b', 0), x -> x.write(8, 'b', 0));
        says(11, "Throws `IllegalArgumentException` if there is no such dialect");
        refused(Ranges.ARGUMENT, x -> x.write(SMALL, 'x', 0), x -> x.write(SMALL, 's', 0));
        says(11, "Throws `UnsupportedOperationException` if it would be too long");
        refused(Ranges.UNSUPPORTED, x -> x.write(LONG, 'b', 0), x -> x.write(LONG, 'p', 0), x -> x.write(LONG, 'l', 0),
            x -> x.write(FULL, 'b', 0), x -> x.write(FULL, 'p', 0), x -> x.write(FULL, 'l', 0));
    }

    private static void selecting() {
        noTape(12, x -> x.select(SMALL, -1), x -> x.select(SMALL, 4));
        noDocument(12, "", x -> x.select(MISSING, PATH), x -> x.select(-1, PATH), x -> x.select(8, PATH),
            x -> x.select(8, KEY));
    }

    private static Object selected(RosettaMill mill, int promise, int index) {
        switch (promise) {
            case 13:
                return mill.kindOf(index);
            case 14:
                return mill.sizeOf(index);
            case 15:
                return mill.numberOf(index);
            default:
                return mill.floatOf(index);
        }
    }

    // Six values of the small document are selected: a map, a row, a number, a map, and two numbers.
    private static void selected() {
        for (int promise = 13; promise <= 16; promise++) {
            says(promise, "Throws `IndexOutOfBoundsException` if there is no such value");
            for (int index : new int[] {-1, 6, 200, Integer.MAX_VALUE, Integer.MIN_VALUE}) {
                int asked = promise;
                refused(Ranges.INDEX, DOCUMENTS, false, x -> selected(x, asked, index));
            }
        }
        says(15, "Throws `NoSuchElementException` if it is no number");
        refused(Ranges.NONE, x -> x.numberOf(0), x -> x.numberOf(1), x -> x.numberOf(3));
        says(16, "Throws `NoSuchElementException` if it is no number");
        refused(Ranges.NONE, x -> x.floatOf(0), x -> x.floatOf(1), x -> x.floatOf(3));
    }

    private static void replacing() {
        noTape(17, x -> x.replace(SMALL, -1, SMALL), x -> x.replace(SMALL, 4, SMALL));
        noDocument(17, ", for either", x -> x.replace(MISSING, PATH, SMALL), x -> x.replace(SMALL, PATH, MISSING),
            x -> x.replace(-1, PATH, SMALL), x -> x.replace(SMALL, PATH, -1), x -> x.replace(8, KEY, SMALL),
            x -> x.replace(SMALL, KEY, 8));
        says(17, "Throws `UnsupportedOperationException` if it would have too many values, or too deep ones");
        refusedWith("*", Ranges.UNSUPPORTED, x -> x.replace(SMALL, PATH, FULL), x -> x.replace(FULL, PATH, ROWS),
            x -> x.replace(SMALL, PATH, DEEP), x -> x.replace(FULL, PATH, FULL), x -> x.replace(DEEP, PATH, DEEP));
        refusedWith("*******", Ranges.UNSUPPORTED, x -> x.replace(DEEP, PATH, SMALL), x -> x.replace(DEEP, PATH, FULL));
    }

    private static void removing() {
        noTape(18, x -> x.remove(SMALL, -1), x -> x.remove(SMALL, 4));
        noDocument(18, "", x -> x.remove(MISSING, PATH), x -> x.remove(-1, PATH), x -> x.remove(8, PATH),
            x -> x.remove(8, KEY));
    }

    private static void putting() {
        says(19, "Throws `IndexOutOfBoundsException` if there is no such tape, for either");
        refused(Ranges.INDEX, x -> x.put(SMALL, -1, KEY, SMALL), x -> x.put(SMALL, 4, KEY, SMALL),
            x -> x.put(SMALL, PATH, -1, SMALL), x -> x.put(SMALL, PATH, 4, SMALL));
        noDocument(19, ", for either", x -> x.put(MISSING, PATH, KEY, SMALL), x -> x.put(SMALL, PATH, KEY, MISSING),
            x -> x.put(-1, PATH, KEY, SMALL), x -> x.put(SMALL, PATH, KEY, 8), x -> x.put(8, KEY, KEY, SMALL));
        says(19, "Throws `IllegalArgumentException` if the tape is no key");
        refused(Ranges.ARGUMENT, x -> x.put(SMALL, PATH, NO_KEY, SMALL), x -> x.put(SMALL, PATH, LAST, SMALL),
            x -> x.put(SMALL, KEY, NO_KEY, SMALL));
        says(19, "Throws `UnsupportedOperationException` if it would have too many values, or too deep ones");
        refused(Ranges.UNSUPPORTED, x -> x.put(FULL, PATH, KEY, SMALL), x -> x.put(SMALL, PATH, KEY, FULL),
            x -> x.put(DEEP, PATH, KEY, SMALL), x -> x.put(SMALL, PATH, KEY, DEEP), x -> x.put(ROWS, PATH, KEY, ROWS),
            x -> x.put(DEEP, PATH, KEY, DEEP));
    }

    private static void changing() {
        noTape(20, x -> x.change(SMALL, -1, '+', 1), x -> x.change(SMALL, 4, '+', 1));
        noDocument(20, "", x -> x.change(MISSING, PATH, '+', 1), x -> x.change(-1, PATH, '-', 1),
            x -> x.change(8, KEY, 'c', 1));
        says(20, "Throws `IllegalArgumentException` if there is no such operation, or the number is out of range");
        refused(Ranges.ARGUMENT, x -> x.change(SMALL, PATH, 'x', 1), x -> x.change(SMALL, PATH, '+', 1000),
            x -> x.change(SMALL, PATH, '+', -1000), x -> x.change(SMALL, PATH, '*', 1000),
            x -> x.change(SMALL, PATH, '*', -1000), x -> x.change(SMALL, PATH, 'c', 5),
            x -> x.change(SMALL, PATH, 'c', -1), x -> x.change(SMALL, KEY, 'x', 1));
        says(20, "Throws `ArithmeticException` if one would have more than 9 digits");
        refused(Ranges.ARITHMETIC, x -> x.change(NINES, PATH, '+', 1), x -> x.change(NINES, PATH, '+', -1),
            x -> x.change(NINES, PATH, '*', 2), x -> x.change(NINES, PATH, '*', -999),
            x -> x.change(NINES, PATH, '*', 999));
    }

    private static void turning() {
        noPlace(21, x -> x.columns(MAPS, -1), x -> x.columns(MAPS, 8));
        noDocument(21, "", x -> x.columns(MISSING, 0), x -> x.columns(-1, 0), x -> x.columns(8, 0),
            x -> x.columns(7, 7));
        says(21, "Throws `UnsupportedOperationException` if it is no row of maps, or would have too many values");
        refused(Ranges.UNSUPPORTED, x -> x.columns(SMALL, 0), x -> x.columns(FULL, 7), x -> x.columns(NINES, NINES),
            x -> x.columns(MAPS, MAPS), x -> x.columns(MAPS, SMALL), x -> x.columns(MAPS, MISSING));
        noPlace(22, x -> x.rows(ROWS, -1), x -> x.rows(ROWS, 8));
        noDocument(22, "", x -> x.rows(MISSING, 0), x -> x.rows(-1, 0), x -> x.rows(8, 0), x -> x.rows(7, 7));
        says(22, "Throws `UnsupportedOperationException` if it is no such map, or would have too many values");
        refused(Ranges.UNSUPPORTED, x -> x.rows(SMALL, 0), x -> x.rows(FULL, 7), x -> x.rows(MAPS, NINES),
            x -> x.rows(ROWS, ROWS), x -> x.rows(ROWS, SMALL), x -> x.rows(ROWS, MISSING));
    }

    private static void merging() {
        noPlace(24, x -> x.merge(0, 1, 2, -1), x -> x.merge(0, 1, 2, 8));
        noDocument(24, ", for any", x -> x.merge(MISSING, 1, 2, 3), x -> x.merge(0, MISSING, 2, 3),
            x -> x.merge(0, 1, MISSING, 3), x -> x.merge(-1, 1, 2, 3), x -> x.merge(0, 8, 2, 3),
            x -> x.merge(0, 1, 8, 3), x -> x.merge(7, 7, 7, 7));
        says(24, "Throws `UnsupportedOperationException` if it would have too many values");
        for (int to = 0; to < 8; to++) {
            int place = to;
            refused(Ranges.UNSUPPORTED, SIDES, to % 2 == 0, x -> x.merge(0, 1, 2, place));
        }
    }

    private static void asking() {
        noDocument(23, ", for either", x -> x.differences(MISSING, 0), x -> x.differences(0, MISSING),
            x -> x.differences(7, 7), x -> x.differences(-1, 0), x -> x.differences(0, 8));
        noDocument(25, ", for either", x -> x.areSame(MISSING, 0), x -> x.areSame(0, MISSING), x -> x.areSame(7, 7),
            x -> x.areSame(-1, 0), x -> x.areSame(0, 8));
        noDocument(26, "", x -> x.values(MISSING), x -> x.values(-1), x -> x.values(8));
        noDocument(27, "", x -> x.depth(MISSING), x -> x.depth(-1), x -> x.depth(8));
        noDocument(28, "", x -> x.lost(MISSING), x -> x.lost(-1), x -> x.lost(8));
        noDocument(29, "", x -> x.sum(MISSING), x -> x.sum(-1), x -> x.sum(8));
    }

    private static void sharing() {
        says(30, "Throws `ArithmeticException` if there are no documents");
        refused(Ranges.ARITHMETIC, new String[0], false, x -> x.heldShare());
        refused(Ranges.ARITHMETIC, new String[0], true, x -> x.heldShare());
        says(31, "Throws `ArithmeticException` if there are no documents");
        refused(Ranges.ARITHMETIC, new String[0], false, x -> x.meanDepth());
        refused(Ranges.ARITHMETIC, new String[0], true, x -> x.meanDepth());
    }

    private static void listedFirst() {
        says(0, "If several exceptions apply, the exception that is listed first is thrown.");
        refused(Ranges.INDEX, x -> x.type(4, 0, 0), x -> x.type(-1, 0, 5), x -> x.read(4, 'x', 0),
            x -> x.read(0, 'x', 8), x -> x.read(4, 'x', 8), x -> x.write(SMALL, 'x', 4), x -> x.write(MISSING, 'b', 4),
            x -> x.write(MISSING, 'x', -1), x -> x.write(LONG, 'b', 4), x -> x.select(MISSING, 4), x -> x.select(8, -1),
            x -> x.numberOf(6), x -> x.floatOf(-1), x -> x.replace(MISSING, 4, SMALL),
            x -> x.replace(SMALL, -1, MISSING), x -> x.replace(FULL, 4, FULL), x -> x.remove(MISSING, 4),
            x -> x.put(MISSING, 4, KEY, SMALL), x -> x.put(SMALL, PATH, 4, MISSING),
            x -> x.put(SMALL, 4, NO_KEY, SMALL), x -> x.put(FULL, 4, KEY, FULL), x -> x.put(FULL, PATH, 4, FULL),
            x -> x.change(MISSING, 4, '+', 1), x -> x.change(SMALL, 4, 'x', 1), x -> x.change(NINES, 4, '+', 1),
            x -> x.columns(MISSING, 8), x -> x.columns(SMALL, 8), x -> x.columns(MAPS, -1), x -> x.rows(MISSING, 8),
            x -> x.rows(SMALL, 8), x -> x.rows(ROWS, -1), x -> x.merge(MISSING, 0, 0, 8),
            x -> x.merge(0, MISSING, 0, -1), x -> x.merge(0, 0, MISSING, 8));
        refused(Ranges.INDEX, SIDES, false, x -> x.merge(0, 1, 2, 8));
        refused(Ranges.INDEX, DOCUMENTS, false, x -> x.piece(4));
        refused(Ranges.INDEX, DOCUMENTS, false, x -> x.finish(8));
        refused(Ranges.NONE, x -> x.write(MISSING, 'x', 0), x -> x.put(MISSING, PATH, NO_KEY, SMALL),
            x -> x.put(SMALL, PATH, NO_KEY, MISSING), x -> x.put(FULL, PATH, KEY, MISSING),
            x -> x.change(MISSING, PATH, 'x', 1), x -> x.change(MISSING, PATH, '+', 1000),
            x -> x.replace(FULL, PATH, MISSING));
        refused(Ranges.ARGUMENT, x -> x.type(LAST, 0, 5), x -> x.type(LAST, 0, 0), x -> x.write(LONG, 'x', 0),
            x -> x.write(FULL, 'x', 0), x -> x.put(FULL, PATH, NO_KEY, SMALL), x -> x.put(DEEP, PATH, NO_KEY, DEEP),
            x -> x.change(NINES, PATH, 'x', 1), x -> x.change(NINES, PATH, '*', 1000),
            x -> x.change(NINES, PATH, '+', 1000), x -> x.change(NINES, PATH, 'c', 5));
        refused(Ranges.ARGUMENT, DOCUMENTS, true, x -> x.set('x', 'c', 0));
        refused(Ranges.ARGUMENT, DOCUMENTS, true, x -> x.set('b', 'x', 0));
        refused(Ranges.ARGUMENT, DOCUMENTS, true, x -> x.set('b', 'c', 2));
        refused(Ranges.ARGUMENT, DOCUMENTS, true, x -> x.set('p', 't', 3));
    }
}
