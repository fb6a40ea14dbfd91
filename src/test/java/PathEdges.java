import java.math.BigDecimal;

/** Promises 12 to 20, each sentence at the edges that it names: what paths select, and what they change. */
final class PathEdges {
    private static final String TEXT = "[{\"a\":1},2,3]";
    private static final String FULL = "[" + "0,".repeat(198) + "0]";
    private static final String DEEP = "[[[[[[[[]]]]]]]]";

    private PathEdges() {
    }

    static void all() {
        select();
        selectFaults();
        selectedStays();
        kindOf();
        sizeOf();
        numberOf();
        floatOf();
        replace();
        replaceAnswers();
        replaceLimits();
        remove();
        removeAnswers();
        put();
        putKeys();
        putAnswers();
        putLimits();
        change();
        changeByOperation();
        changeRanges();
        changeAnswers();
        changeLimits();
    }

    private static void says(int promise, String words) {
        Doc.says(promise, words);
    }

    private static void due(String what, Object got, Object due) {
        Bench.due(Doc.told() + what, got, due);
    }

    private static void fails(Class<? extends RuntimeException> due, Bench.Call call) {
        Bench.fails(Doc.told(), due, call);
    }

    private static Bench with(String... documents) {
        Bench bench = new Bench();
        for (int i = 0; i < documents.length; i++) {
            due("read " + documents[i], bench.readLong(documents[i], 'b', i) > 0, true);
        }
        return bench;
    }

    private static void select() {
        says(12, "Selects values of a document by a path.");
        Bench bench = with(TEXT, "[true]");
        bench.select(0, "*");
        bench.select(1, "*");
        due("of the document", bench.mill.kindOf(0), 'b');
        due("the tape stays", bench.tape(3), "*");
        says(12, "- `document`: the document");
        Ranges.of(TEXT, 0, 7, Ranges.NONE, (mill, document) -> mill.select(document, 0));
        says(12, "- `tape`: the tape with the path");
        Ranges.of(TEXT, 0, 3, Ranges.INDEX, (mill, tape) -> mill.select(0, tape));
    }

    private static void selectFaults() {
        says(12, "Returns how many, or with a fault of the path, told as in 'l', -1 less its place, and what was "
            + "selected stays.");
        Bench bench = with(FULL, "0", TEXT);
        due("200", bench.select(0, "?"), 200);
        due("199", bench.select(0, "*"), 199);
        due("1", bench.select(1, "?"), 1);
        due("0", bench.select(1, "*"), 0);
        fails(Ranges.INDEX, () -> bench.mill.kindOf(0));
        due("3", bench.select(2, "*"), 3);
        String[] faults = {"x", " ", "=", "*x", "*?*?*=", "[", "[]", "[x]", "[0", "[00]", "[01]", "[1000]", "[0000]",
            "[0]]", ".", ".a", ".\"", ".\"a", ".\"\\x\"", ".\"a\"\"", ".\"aaaaaaaaaaaaaaaaaaaaa\"", ".\"\n\"",
            "*".repeat(239) + "x", "*".repeat(239) + "["};
        int[] places = {0, 0, 0, 1, 5, 1, 1, 1, 2, 2, 2, 4, 2, 3, 1, 1, 2, 3, 3, 4, 22, 2, 239, 240};
        for (int i = 0; i < faults.length; i++) {
            due(faults[i], bench.select(2, faults[i]), -1 - places[i]);
            due("what was selected", bench.mill.kindOf(0) + "" + bench.mill.numberOf(2), "m3");
            fails(Ranges.INDEX, () -> bench.mill.kindOf(3));
        }
    }

    private static void selectedStays() {
        says(13, "Returns the kind of a selected value, as it was when it was selected.");
        Bench bench = with("[1,[2,3],\"abc\"]", "null");
        bench.select(0, "*");
        bench.change(0, "*", '+', 7);
        bench.replace(0, "[1]", 1);
        bench.read("5", 'b', 0);
        bench.mill.begin('b');
        bench.mill.finish(1);
        bench.mill.isSound();
        due("kinds", "" + bench.mill.kindOf(0) + bench.mill.kindOf(1) + bench.mill.kindOf(2), "nrt");
        due("sizes", "" + bench.mill.sizeOf(0) + bench.mill.sizeOf(1) + bench.mill.sizeOf(2), "023");
        due("number", bench.mill.numberOf(0), 1);
        due("float", bench.mill.floatOf(0), Float.floatToIntBits(1));
        fails(Ranges.INDEX, () -> bench.mill.kindOf(3));
    }

    private static int selected(RosettaMill mill, int many) {
        return mill.select(0, 0) == many ? 0 : 1;
    }

    private static void kindOf() {
        says(13, "- `index`: its index, from 0");
        Ranges.of("[1,2,3]", 0, 2, Ranges.INDEX, (mill, index) -> selected(mill, 3) + mill.kindOf(index));
        Ranges.of("[1]", 0, 0, Ranges.INDEX, (mill, index) -> selected(mill, 1) + mill.kindOf(index));
        Ranges.of(FULL, 0, 198, Ranges.INDEX, (mill, index) -> selected(mill, 199) + mill.kindOf(index));
        Bench bench = with(FULL);
        bench.select(0, "?");
        due("the last of 200", bench.mill.kindOf(199), 'n');
        fails(Ranges.INDEX, () -> bench.mill.kindOf(200));
        says(13, "Returns 'z' nothing, 'b' a truth, 'n' a number, 't' a text, 'r' a row, 'm' a map.");
        String[] texts = {"null", "true", "false", "0", "-0.5", "\"\"", "\"null\"", "[]", "[0]", "{}", "{\"a\":0}"};
        for (int i = 0; i < texts.length; i++) {
            bench.read(texts[i], 'b', 0);
            bench.select(0, "");
            due(texts[i], bench.mill.kindOf(0), "zbbnnttrrmm".charAt(i));
        }
    }

    private static void sizeOf() {
        says(14, "Returns how much there is of a selected value: 1 or 0 for a truth, the digits behind the point of a "
            + "number, the bytes of a text, the values directly in a row or map, 0 for nothing.");
        says(14, "Returns how much.");
        String[] texts = {"null", "true", "false", "0", "-5", "5.0", "0.0000", "-99999.9999", "\"\"", "\"\\n\\\\\\\"\"",
            "\"abcdefghijklmnopqrst\"", "[]", "[[1,2],3]", "{}", "{\"a\":{\"b\":0,\"c\":0}}", FULL};
        int[] sizes = {0, 1, 0, 0, 0, 1, 4, 4, 0, 3, 20, 0, 2, 0, 1, 199};
        for (int i = 0; i < texts.length; i++) {
            Bench bench = with(texts[i]);
            bench.select(0, "");
            due(texts[i], bench.mill.sizeOf(0), sizes[i]);
        }
        says(14, "- `index`: its index, from 0");
        Ranges.of("[1,2,3]", 0, 2, Ranges.INDEX, (mill, index) -> selected(mill, 3) + mill.sizeOf(index));
        Ranges.of(FULL, 0, 198, Ranges.INDEX, (mill, index) -> selected(mill, 199) + mill.sizeOf(index));
    }

    private static void numberOf() {
        says(15, "Returns a selected number without its point.");
        says(15, "Returns the number, its digits behind the point included.");
        String[] texts = {"0", "-0", "0.0000", "-0.00", "5", "-5", "5.0", "0.05", "-1.50", "999999999", "-999999999",
            "99999.9999", "-12345678.9", "0.0001"};
        int[] numbers = {0, 0, 0, 0, 5, -5, 50, 5, -150, 999999999, -999999999, 999999999, -123456789, 1};
        for (int i = 0; i < texts.length; i++) {
            Bench bench = with(texts[i]);
            bench.select(0, "");
            due(texts[i], bench.mill.numberOf(0), numbers[i]);
        }
        says(15, "- `index`: its index, from 0");
        Ranges.of("[1,2,3]", 0, 2, Ranges.INDEX, (mill, index) -> selected(mill, 3) + mill.numberOf(index));
        Ranges.of(FULL, 0, 198, Ranges.INDEX, (mill, index) -> selected(mill, 199) + mill.numberOf(index));
    }

    private static void floatOf() {
        says(16, "Returns the bits of a selected number as a float.");
        says(16, "Returns the bits of the number without its point as a double, divided by 10 to the power of how many "
            + "digits are behind the point, converted to float;");
        int[] numbers = {1, 2, 3, 5, 9, 10, 15, 25, 99, 100, 127, 128, 255, 256, 999, 1000, 3125, 6250, 9999, 10000,
            65535, 65536, 99999, 100000, 8388607, 8388608, 8388609, 16777215, 16777216, 16777217, 16777218, 16777219,
            33554431, 33554433, 33554434, 67108863, 123456789, 268435455, 536870911, 536870912, 999999999, 999999983};
        for (int number : numbers) {
            for (int behind = 0; behind <= 4; behind++) {
                for (String sign : new String[] {"", "-"}) {
                    String text = sign + BigDecimal.valueOf(number, behind).toPlainString();
                    Bench bench = with(text);
                    bench.select(0, "");
                    float due = (float) ((sign.isEmpty() ? 1 : -1) * (double) number / Math.pow(10, behind));
                    due(text, bench.mill.floatOf(0), Float.floatToIntBits(due));
                }
            }
        }
        says(16, "a 0 with a - is -0.0.");
        Bench bench = with("[-0,-0.0,-0.00,-0.000,-0.0000,0,0.0,0.0000]");
        bench.select(0, "*");
        for (int i = 0; i < 8; i++) {
            due("0 at " + i, bench.mill.floatOf(i), i < 5 ? Integer.MIN_VALUE : 0);
        }
        says(16, "- `index`: its index, from 0");
        Ranges.of("[1,2,3]", 0, 2, Ranges.INDEX, (mill, index) -> selected(mill, 3) + mill.floatOf(index));
        Ranges.of(FULL, 0, 198, Ranges.INDEX, (mill, index) -> selected(mill, 199) + mill.floatOf(index));
    }

    // ---- replace

    private static void replaces(String text, String path, String by, int many, String due) {
        Bench bench = with(text, by);
        due(text + " " + path, bench.replace(0, path, 1), many);
        due(text + " " + path, bench.write(0, 'b'), due);
        due("what takes their places stays", bench.write(1, 'b'), by);
    }

    private static void replace() {
        says(17, "Replaces all values that a path selects by a document; what is in one that was replaced is not.");
        replaces("[1,[2,[3]],{\"a\":4}]", "*", "[0]", 3, "[[0],[0],[0]]");
        replaces("[1,[2,[3]],{\"a\":4}]", "?", "9", 1, "9");
        replaces("[1,[2,[3]],{\"a\":4}]", "*?", "9", 3, "[9,9,9]");
        replaces("[1,[2,[3]],{\"a\":4}]", "**", "{}", 3, "[1,[{},{}],{\"a\":{}}]");
        replaces("{\"b\":1,\"a\":[2,2]}", ".\"b\"", "-0.50", 1, "{\"b\":-0.50,\"a\":[2,2]}");
        replaces("[[[1,2],3],4]", "[0][0]", "\"x\"", 1, "[[\"x\",3],4]");
        replaces("[[[1,2],3],4]", "[0]*?", "null", 2, "[[null,null],4]");
        replaces("[1]", "[1]", "9", 0, "[1]");
        replaces("[1]", "", "9", 1, "9");
        Bench bench = with("[1,[2]]");
        due("by itself", bench.replace(0, "*", 0), 2);
        due("by itself", bench.write(0, 'b'), "[[1,[2]],[1,[2]]]");
        says(17, "- `document`: the document that is changed");
        Ranges.of(TEXT, 0, 7, Ranges.NONE, (mill, document) -> mill.replace(document, 0, 3));
        says(17, "- `tape`: the tape with the path");
        Ranges.of(TEXT, 0, 3, Ranges.INDEX, (mill, tape) -> mill.replace(0, tape, 3));
        says(17, "- `by`: the document that takes their places");
        Ranges.of(TEXT, 0, 7, Ranges.NONE, (mill, document) -> mill.replace(3, 0, document));
    }

    private static void replaceAnswers() {
        says(17, "Returns how many were replaced, or with a fault of the path -1 less its place.");
        Bench bench = with("[1,2,[3]]", "0");
        due("fault", bench.replace(0, "x", 1), -1);
        due("fault", bench.replace(0, "*[01]", 1), -4);
        due("as it was", bench.write(0, 'b'), "[1,2,[3]]");
        due("none", bench.replace(0, "[3]", 1), 0);
        due("all", bench.replace(0, "*", 1), 3);
    }

    private static void replaceLimits() {
        for (int many = 98; many <= 102; many++) {
            Bench bench = with("[0,[" + "0,".repeat(98) + "0]]", "[" + "0,".repeat(many - 2) + "0]");
            // 101 values without the one that goes, and as many as come.
            limited(bench, () -> bench.replace(0, "[0]", 1), 1, 101 + many);
        }
        for (int depth = 1; depth <= 8; depth++) {
            for (int level = 1; level <= 8; level++) {
                Bench bench = with(deep(8), deep(depth));
                String path = "*".repeat(level - 1);
                if (level - 1 + depth <= 8) {
                    due(path + " " + depth, bench.replace(0, path, 1), 1);
                    due(path + " " + depth, bench.mill.depth(0), level - 1 + depth);
                } else {
                    fails(Ranges.UNSUPPORTED, () -> bench.replace(0, path, 1));
                    due("as it was", bench.mill.depth(0), 8);
                }
            }
        }
    }

    private static String deep(int depth) {
        return "[".repeat(depth - 1) + "0" + "]".repeat(depth - 1);
    }

    private static void limited(Bench bench, Bench.Call call, int answer, int values) {
        int before = bench.mill.values(0);
        if (values <= 200) {
            due(values + " values", call.answer(), answer);
            due(values + " values", bench.mill.values(0), values);
        } else {
            fails(Ranges.UNSUPPORTED, call);
            due("as it was", bench.mill.values(0), before);
        }
    }

    // ---- remove

    private static void removes(String text, String path, int many, String due) {
        Bench bench = with(text);
        due(text + " " + path, bench.remove(0, path), many);
        due(text + " " + path, bench.write(0, 'b'), due);
    }

    private static void remove() {
        says(18, "Takes all values that a path selects out of their rows and maps; the document itself stays.");
        removes("[1,[2,3],{\"a\":4,\"b\":5}]", "**", 4, "[1,[],{}]");
        removes("[1,[2,3],{\"a\":4,\"b\":5}]", "*", 3, "[]");
        removes("[1,[2,3],{\"a\":4,\"b\":5}]", "[1]", 1, "[1,{\"a\":4,\"b\":5}]");
        removes("[1,[2,3],{\"a\":4,\"b\":5}]", "[2].\"a\"", 1, "[1,[2,3],{\"b\":5}]");
        removes("[1,[2,3]]", "", 0, "[1,[2,3]]");
        removes("7", "", 0, "7");
        removes("7", "?", 0, "7");
        removes("[]", "?", 0, "[]");
        removes(DEEP, "*******", 1, "[[[[[[[]]]]]]]");
        says(18, "- `document`: the document");
        Ranges.of(TEXT, 0, 7, Ranges.NONE, (mill, document) -> mill.remove(document, 0));
        says(18, "- `tape`: the tape with the path");
        Ranges.of(TEXT, 0, 3, Ranges.INDEX, (mill, tape) -> mill.remove(0, tape));
    }

    private static void removeAnswers() {
        says(18, "Returns how many were taken out, one within another one that was not counted, or with a fault of the "
            + "path -1 less its place.");
        removes("[1,[2,3],{\"a\":4,\"b\":5}]", "?", 3, "[]");
        removes("[[[[1]]],2]", "*?", 2, "[]");
        removes("[[[[1]]],2]", "**?", 1, "[[],2]");
        removes("[1]", "[1]", 0, "[1]");
        removes("[1]", "x", -1, "[1]");
        removes("[1]", "*x", -2, "[1]");
        removes("[1]", "[", -2, "[1]");
        Bench bench = with(FULL);
        due("199", bench.remove(0, "?"), 199);
        due("none is left", bench.mill.values(0), 1);
    }

    // ---- put

    private static void puts(String text, String path, String by, int many, String due) {
        Bench bench = with(text, by);
        due(text + " " + path, bench.put(0, path, "k", 1), many);
        due(text + " " + path, bench.write(0, 'b'), due);
        due("what is put in stays", bench.write(1, 'b'), by);
    }

    private static void put() {
        says(19, "Puts a document into all rows and maps that a path selects, as they are ahead of this, the outer "
            + "ones too: at the end of rows, and of maps, by a key, or in the place of what they have by it.");
        puts("[]", "", "9", 1, "[9]");
        puts("{}", "", "9", 1, "{\"k\":9}");
        puts("[1,2]", "", "[9]", 1, "[1,2,[9]]");
        puts("{\"a\":1}", "", "9", 1, "{\"a\":1,\"k\":9}");
        puts("{\"k\":1,\"a\":2}", "", "9", 1, "{\"k\":9,\"a\":2}");
        puts("{\"a\":2,\"k\":[1,2]}", "", "9", 1, "{\"a\":2,\"k\":9}");
        puts("[[],{},[[]]]", "?", "9", 5, "[[9],{\"k\":9},[[9],9],9]");
        puts("{\"k\":{\"k\":1,\"a\":2},\"b\":{\"k\":{}}}", "?", "9", 4, "{\"k\":9,\"b\":{\"k\":9}}");
        puts("{\"k\":{\"k\":1,\"a\":2},\"b\":3}", "*", "9", 1, "{\"k\":{\"k\":9,\"a\":2},\"b\":3}");
        puts("[[1]]", "?", "[]", 2, "[[1,[]],[]]");
        Bench bench = with("[1,[2]]");
        due("itself", bench.put(0, "?", "k", 0), 2);
        due("itself, as it is ahead of this", bench.write(0, 'b'), "[1,[2,[1,[2]]],[1,[2]]]");
        says(19, "- `document`: the document that is changed");
        Ranges.of(TEXT, 0, 7, Ranges.NONE, (mill, document) -> mill.put(document, 0, 1, 3));
        says(19, "- `tape`: the tape with the path");
        Ranges.of(TEXT, 0, 3, Ranges.INDEX, (mill, tape) -> mill.put(0, tape, 1, 3));
        says(19, "- `by`: the document that is put in");
        Ranges.of(TEXT, 0, 7, Ranges.NONE, (mill, document) -> mill.put(3, 0, 1, document));
    }

    private static void putKeys() {
        says(19, "- `key`: the tape with the key, up to 20 bytes, each 10 or from 32 to 126");
        Ranges.of(TEXT, 0, 3, Ranges.INDEX, (mill, tape) -> mill.put(0, 0, tape, 3));
        for (int length : new int[] {0, 1, 19, 20, 21, 22, 240}) {
            Bench bench = with("{}", "9");
            if (length <= 20) {
                due("length " + length, bench.put(0, "", "x".repeat(length), 1), 1);
                due("length " + length, bench.write(0, 'b'), "{\"" + "x".repeat(length) + "\":9}");
            } else {
                fails(Ranges.ARGUMENT, () -> bench.put(0, "", "x".repeat(length), 1));
                fails(Ranges.ARGUMENT, () -> bench.put(1, "x", "x".repeat(length), 1));
            }
        }
        for (char value = 0; value < 256; value++) {
            Bench bench = with("{}", "9", "[1]");
            for (String key : new String[] {"" + value, value + "abc", "abc" + value, "a".repeat(19) + value}) {
                if (value == 10 || value >= 32 && value <= 126) {
                    due("byte " + (int) value, bench.put(0, "", key, 1), 1);
                    due("byte " + (int) value, bench.select(0, ".\"" + Node.quoted(key).substring(1)), 1);
                } else {
                    fails(Ranges.ARGUMENT, () -> bench.put(0, "", key, 1));
                    // A key is wanted even if just rows are selected, or none.
                    fails(Ranges.ARGUMENT, () -> bench.put(2, "", key, 1));
                    fails(Ranges.ARGUMENT, () -> bench.put(2, "[9]", key, 1));
                }
            }
        }
    }

    private static void putAnswers() {
        says(19, "Returns into how many it was put, or with a fault of the path -1 less its place.");
        puts("[1,[2],{\"a\":3}]", "*", "9", 2, "[1,[2,9],{\"a\":3,\"k\":9}]");
        puts("[1,[2],{\"a\":3}]", "[0]", "9", 0, "[1,[2],{\"a\":3}]");
        puts("7", "", "9", 0, "7");
        puts("[1]", "x", "9", -1, "[1]");
        puts("[1]", "*x", "9", -2, "[1]");
        puts("[1]", ".\"", "9", -3, "[1]");
    }

    private static void putLimits() {
        for (int many = 97; many <= 101; many++) {
            Bench bench = with("[" + "0,".repeat(98) + "0]", "[" + "0,".repeat(many - 2) + "0]");
            limited(bench, () -> bench.put(0, "", "k", 1), 1, 100 + many);
        }
        for (int many = 98; many <= 102; many++) {
            Bench bench = with("{\"k\":0,\"a\":[" + "0,".repeat(96) + "0]}", "[" + "0,".repeat(many - 2) + "0]");
            // In the place of what the map has by the key, so one goes.
            limited(bench, () -> bench.put(0, "", "k", 1), 1, 99 + many);
        }
        String full = "{\"k\":[" + "0,".repeat(197) + "0]}";
        Bench bench = with(full, "[" + "0,".repeat(197) + "0]", "9");
        due("200 values", bench.mill.values(0), 200);
        limited(bench, () -> bench.put(0, "", "l", 2), 1, 201);
        limited(bench, () -> bench.put(0, "", "k", 0), 1, 201);
        limited(bench, () -> bench.put(0, "", "k", 1), 1, 200);
        limited(bench, () -> bench.put(0, "?", "k", 2), 2, 2);
        putDepth();
    }

    private static void putDepth() {
        for (int depth = 1; depth <= 8; depth++) {
            for (int level = 1; level <= 8; level++) {
                Bench bench = with(DEEP, deep(depth));
                String path = "*".repeat(level - 1);
                if (level + depth <= 8) {
                    due(path + " " + depth, bench.put(0, path, "k", 1), 1);
                    due(path + " " + depth, bench.mill.depth(0), 8);
                } else {
                    fails(Ranges.UNSUPPORTED, () -> bench.put(0, path, "k", 1));
                    due("as it was", bench.mill.values(0), 8);
                }
            }
        }
        // What is too deep in a value that goes does not count.
        puts("{\"k\":[[[[[[[]]]]]]]}", "?", "9", 8, "{\"k\":9}");
    }

    // ---- change

    private static void changes(String text, String path, char op, int number, int many, String due) {
        Bench bench = with(text);
        due(text + path + op + number, bench.change(0, path, op, number), many);
        due(text + path + op + number, bench.write(0, 'b'), due);
    }

    private static void change() {
        says(20, "Changes all numbers that a path selects; others are left.");
        changes("[1,\"2\",null,true,[3],{\"a\":4}]", "*", '+', 1, 1, "[2,\"2\",null,true,[3],{\"a\":4}]");
        changes("[1,\"2\",null,true,[3],{\"a\":4}]", "?", '*', 2, 3, "[2,\"2\",null,true,[6],{\"a\":8}]");
        changes("[1,[3]]", "[1]", '-', 0, 0, "[1,[3]]");
        changes("5", "", '+', 1, 1, "6");
        says(20, "- `document`: the document");
        Ranges.of(TEXT, 0, 7, Ranges.NONE, (mill, document) -> mill.change(document, 0, '+', 1));
        says(20, "- `tape`: the tape with the path");
        Ranges.of(TEXT, 0, 3, Ranges.INDEX, (mill, tape) -> mill.change(0, tape, '+', 1));
    }

    private static void changeByOperation() {
        says(20, "- `op`: '+' a number is added to the digits, '*' they are multiplied by it, both without a - at 0 "
            + "then, 'c' digits behind the point beyond so many are cut off, with the - as it is, '-' its sign becomes "
            + "the other one, of a 0 its notation");
        changes("[0,1.5,-0.05,99.99,-1]", "*", '+', 1, 5, "[1,1.6,-0.04,100.00,0]");
        changes("[-0,-0.00,0]", "*", '+', 0, 2, "[0,0.00,0]");
        changes("[1,0.01,-1]", "*", '+', -1, 3, "[0,0.00,-2]");
        changes("[1.5,-2,0.0]", "*", '*', -2, 2, "[-3.0,4,0.0]");
        changes("[-1,-0.5,-0,-0.0]", "*", '*', 0, 4, "[0,0.0,0,0.0]");
        changes("[-0,-0.000,0,5]", "*", '*', 1, 2, "[0,0.000,0,5]");
        changes("[-0,0,-3]", "*", '*', -1, 2, "[0,0,3]");
        changes("[1.2345,-1.2345,0.9999,-0.9999,-0.0001]", "*", 'c', 3, 5, "[1.234,-1.234,0.999,-0.999,-0.000]");
        changes("[1.2345,-1.2345,0.9999,-0.9999,-0.0001]", "*", 'c', 0, 5, "[1,-1,0,-0,-0]");
        changes("[-0.00,-0.0,0.00,1.00]", "*", 'c', 1, 3, "[-0.0,-0.0,0.0,1.0]");
        changes("[1.5,1.50,1.500,1.5000]", "*", 'c', 2, 2, "[1.5,1.50,1.50,1.50]");
        changes("[1,-1,0,-0,0.0,-0.0000,5.50,-999999999]", "*", '-', 0, 8, "[-1,1,-0,0,-0.0,0.0000,-5.50,999999999]");
        Ranges.ofSigns(TEXT, "+*c-", Ranges.ARGUMENT, (mill, sign) -> mill.change(0, 0, (char) sign, 1));
    }

    private static void changeRanges() {
        says(20, "- `number`: the number, -999 to 999 for '+' and '*', 0 to 4 for 'c', of no meaning for '-'");
        Ranges.of(TEXT, -999, 999, Ranges.ARGUMENT, (mill, number) -> mill.change(0, 0, '+', number));
        Ranges.of(TEXT, -999, 999, Ranges.ARGUMENT, (mill, number) -> mill.change(0, 0, '*', number));
        Ranges.of(TEXT, 0, 4, Ranges.ARGUMENT, (mill, number) -> mill.change(0, 0, 'c', number));
        for (int number : new int[] {Integer.MIN_VALUE, -1000, -1, 0, 5, 1000, Integer.MAX_VALUE}) {
            changes("[1,-0]", "*", '-', number, 2, "[-1,0]");
        }
        changes("[1000,-1000]", "*", '+', -999, 2, "[1,-1999]");
        changes("[1000,-1000]", "*", '+', 999, 2, "[1999,-1]");
        changes("[1000,-1000]", "*", '*', -999, 2, "[-999000,999000]");
        changes("[0.1234]", "*", 'c', 4, 0, "[0.1234]");
    }

    private static void changeAnswers() {
        says(20, "Returns how many were changed, as far as a number became another one or got another notation, or "
            + "with a fault of the path -1 less its place.");
        changes("[1,2,0]", "*", '+', 0, 0, "[1,2,0]");
        changes("[1,2,-0]", "*", '+', 0, 1, "[1,2,0]");
        changes("[1,0,2]", "*", '*', 0, 2, "[0,0,0]");
        changes("[1,1.0,1.00]", "*", 'c', 1, 1, "[1,1.0,1.0]");
        changes("[1]", "**", '+', 1, 0, "[1]");
        changes("1", "x", '+', 1, -1, "1");
        changes("[1]", "*x", '+', 1, -2, "[1]");
        changes("[999999999]", "*[1", '*', 999, -4, "[999999999]");
    }

    private static void changeLimits() {
        edge("999999998", '+', 1, "999999999");
        edge("999999999", '+', 1, null);
        edge("999999000", '+', 999, "999999999");
        edge("999999001", '+', 999, null);
        edge("-999999998", '+', -1, "-999999999");
        edge("-999999999", '+', -1, null);
        edge("-999999000", '+', -999, "-999999999");
        edge("-999999001", '+', -999, null);
        edge("99999.9998", '+', 1, "99999.9999");
        edge("99999.9999", '+', 1, null);
        edge("9999999.99", '+', 1, null);
        edge("1001001", '*', 999, "999999999");
        edge("1001002", '*', 999, null);
        edge("1001001", '*', -999, "-999999999");
        edge("-1001002", '*', -999, null);
        edge("100.1001", '*', 999, "99999.9999");
        edge("100.1002", '*', 999, null);
        edge("999999999", '*', 999, null);
        edge("-999999999", '*', 999, null);
        edge("999999999", '*', -999, null);
        edge("-999999999", '*', -1, "999999999");
        edge("-999999999", '-', 0, "999999999");
        edge("12345.6789", 'c', 0, "12345");
        edge("100000000", '*', 10, null);
        edge("99999999", '*', 10, "999999990");
    }

    private static void edge(String text, char op, int number, String due) {
        Bench bench = with("[1.5," + text + ",2.5]");
        if (due != null) {
            due(text + op + number, bench.change(0, "[1]", op, number), 1);
            due(text + op + number, bench.write(0, 'b'), "[1.5," + due + ",2.5]");
        } else {
            fails(Ranges.ARITHMETIC, () -> bench.change(0, "*", op, number));
            due("none was changed", bench.write(0, 'b'), "[1.5," + text + ",2.5]");
            due("one that is not selected", bench.change(0, "[0]", op, number) >= 0, true);
        }
    }
}
