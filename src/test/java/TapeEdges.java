/** Promises 1 to 11, each sentence at the edges that it names: a new object, tapes, reading and writing. */
final class TapeEdges {
    private static final String TEXT = "[{\"a\":1}]";

    private TapeEdges() {
    }

    static void all() {
        newObject();
        typeUpTo240();
        typeArguments();
        clear();
        lengthAndByteAt();
        setSettings();
        setValues();
        readInPlace();
        readAnswers();
        beginGivesUp();
        pieceFaults();
        piecesUpTo480();
        finish();
        writeInPlace();
        writeUpTo240();
    }

    private static void says(int promise, String words) {
        Doc.says(promise, words);
    }

    private static void due(String what, Object got, Object due) {
        Bench.due(Doc.told() + what, got, due);
    }

    private static void fails(Class<? extends RuntimeException> due, Bench.Call call) {
        Bench.fails(Doc.told(), due, call);
    }

    private static void newObject() {
        says(1, "Creates a mill with four empty tapes and no documents, all settings off, and twins refused.");
        RosettaMill mill = new RosettaMill();
        for (int i = 0; i < 4; i++) {
            due("tape " + i, mill.length(i), 0);
        }
        for (int i = -1; i <= 8; i++) {
            int document = i;
            fails(Ranges.NONE, () -> mill.values(document));
        }
        fails(Ranges.INDEX, () -> mill.kindOf(0));
        fails(Ranges.STATE, () -> mill.finish(0));
        for (String setting : "bc be bs bt pc ps pt ls".split(" ")) {
            due(setting, mill.set(setting.charAt(0), setting.charAt(1), 0), 0);
        }
        Reads.fault("", 'b', "#\n1", 0);
        Reads.fault("", 'b', "[1,]", 3);
        Reads.fault("", 'b', "{\"a\":1,\"a\":2}", 9);
        Reads.fault("", 'p', "#\n1", 0);
        Reads.fault("", 'p', "(:\"a\"1\"a\"2)", 8);
        due("none under way", mill.begin('b'), false);
    }

    private static void typeUpTo240() {
        says(2, "Types bytes at the end of a tape, which has at most 240.");
        for (int many = 1; many <= 4; many++) {
            RosettaMill mill = new RosettaMill();
            for (int length = many; length <= 240; length += many) {
                due("length", mill.type(3, length, many), length);
            }
            for (int over = 1; over <= 4; over++) {
                int more = over;
                fails(Ranges.STATE, () -> mill.type(3, 0, more));
            }
            due("it stays full", mill.length(3), 240);
            due("the last one", mill.byteAt(3, 239), 240);
            due("the first one", mill.byteAt(3, many - 1), many);
            due("another tape", mill.type(2, 0, many), many);
        }
        for (int length = 236; length <= 240; length++) {
            for (int many = 1; many <= 4; many++) {
                Bench bench = new Bench();
                bench.lay(0, "x".repeat(length));
                int more = many;
                if (length + many <= 240) {
                    due(length + " and " + many, bench.mill.type(0, 0, many), length + many);
                } else {
                    fails(Ranges.STATE, () -> bench.mill.type(0, 0, more));
                    due(length + " and " + many, bench.mill.length(0), length);
                }
            }
        }
    }

    private static void typeArguments() {
        says(2, "- `tape`: the tape, 0 to 3");
        Ranges.of(TEXT, 0, 3, Ranges.INDEX, (mill, tape) -> mill.type(tape, 0, 1));
        says(2, "- `bytes`: the bytes, the first one the highest of those that are typed");
        int[] bytes = {0x11223344, 0x80ff7f01, -1, 0, Integer.MIN_VALUE};
        for (int typed : bytes) {
            for (int many = 1; many <= 4; many++) {
                RosettaMill mill = new RosettaMill();
                mill.type(0, typed, many);
                for (int i = 0; i < many; i++) {
                    due(typed + " " + many + " " + i, mill.byteAt(0, i),
                        (int) ((typed & 0xffffffffL) >> 8 * (many - 1 - i)) & 255);
                }
            }
        }
        says(2, "- `many`: how many, 1 to 4");
        Ranges.of(TEXT, 1, 4, Ranges.ARGUMENT, (mill, many) -> mill.type(0, 0, many));
        says(2, "Returns the length of the tape.");
        RosettaMill mill = new RosettaMill();
        due("length", mill.type(0, 0, 4), 4);
        due("length", mill.type(0, 0, 1), 5);
        due("length", mill.length(0), 5);
    }

    private static void clear() {
        says(3, "Makes a tape empty.");
        Bench bench = new Bench();
        bench.lay(0, "abc");
        bench.lay(1, "x".repeat(240));
        bench.mill.clear(1);
        due("length", bench.mill.length(1), 0);
        fails(Ranges.INDEX, () -> bench.mill.byteAt(1, 0));
        due("another one", bench.tape(0), "abc");
        due("it can be typed again", bench.mill.type(1, 0, 4), 4);
        says(3, "- `tape`: the tape, 0 to 3");
        Ranges.of(TEXT, 0, 3, Ranges.INDEX, (mill, tape) -> mill.clear(tape));
        says(3, "Returns the length that it had.");
        for (int length : new int[] {0, 1, 239, 240}) {
            bench.lay(2, "x".repeat(length));
            due("length", bench.mill.clear(2), length);
            due("length", bench.mill.clear(2), 0);
        }
    }

    private static void lengthAndByteAt() {
        says(4, "Returns the length of a tape.");
        Bench bench = new Bench();
        for (int length : new int[] {0, 1, 239, 240}) {
            bench.lay(1, "x".repeat(length));
            due("length", bench.mill.length(1), length);
            says(5, "- `index`: its place, from 0");
            for (int index : new int[] {-1, length, 240, Integer.MAX_VALUE, Integer.MIN_VALUE}) {
                fails(Ranges.INDEX, () -> bench.mill.byteAt(1, index));
            }
            due("last", length > 0 ? bench.mill.byteAt(1, length - 1) : 'x', (int) 'x');
            due("first", length > 0 ? bench.mill.byteAt(1, 0) : 'x', (int) 'x');
            says(4, "Returns the length.");
        }
        says(4, "- `tape`: the tape, 0 to 3");
        Ranges.of(TEXT, 0, 3, Ranges.INDEX, (mill, tape) -> mill.length(tape));
        says(5, "Returns a byte of a tape.");
        bench.lay(0, "abc");
        due("byte", bench.mill.byteAt(0, 1), (int) 'b');
        says(5, "- `tape`: the tape, 0 to 3");
        Ranges.of(TEXT, 0, 3, Ranges.INDEX, (mill, tape) -> mill.byteAt(tape, 0));
        says(5, "Returns the byte, 0 to 255.");
        for (int value = 0; value < 256; value++) {
            bench.mill.clear(2);
            bench.mill.type(2, value | 0xffffff00, 1);
            due("byte", bench.mill.byteAt(2, 0), value);
        }
    }

    private static void setSettings() {
        says(6, "Changes a setting of a dialect.");
        due("before and behind", new Bench().read("#\n1", 'b', 0) < 0, true);
        Reads.to("bc1", 'b', "#\n1", "1");
        says(6, "- `dialect`: 'b' or 'p', for 's' also 'l'");
        Ranges.ofSigns(TEXT, "bpl", Ranges.ARGUMENT, (mill, sign) -> mill.set((char) sign, 's', 1));
        Ranges.ofSigns(TEXT, "bp", Ranges.ARGUMENT, (mill, sign) -> mill.set((char) sign, 'c', 1));
        Ranges.ofSigns(TEXT, "bp", Ranges.ARGUMENT, (mill, sign) -> mill.set((char) sign, 't', 1));
        says(6, "- `what`: 'c' comments are on, 'e' a , can stand behind the last one, for 'b' alone, 's' maps are "
            + "written by rising keys, 't' twins");
        Ranges.ofSigns(TEXT, "b", Ranges.ARGUMENT, (mill, sign) -> mill.set((char) sign, 'e', 1));
        Ranges.ofSigns(TEXT, "cest", Ranges.ARGUMENT, (mill, sign) -> mill.set('b', (char) sign, 1));
        Ranges.ofSigns(TEXT, "cst", Ranges.ARGUMENT, (mill, sign) -> mill.set('p', (char) sign, 1));
        Ranges.ofSigns(TEXT, "s", Ranges.ARGUMENT, (mill, sign) -> mill.set('l', (char) sign, 1));
        String[] settings = "bc be bs bt pc ps pt ls".split(" ");
        for (String one : settings) {
            RosettaMill mill = new RosettaMill();
            mill.set(one.charAt(0), one.charAt(1), 1);
            for (String other : settings) {
                due(one + " and " + other, mill.set(other.charAt(0), other.charAt(1), 0), one.equals(other) ? 1 : 0);
            }
        }
    }

    private static void setValues() {
        says(6, "- `value`: 1 for on, 0 for off; of 't' 0 refused, 1 left out, 2 in the place of the one ahead");
        for (String one : "bc be bs pc ps ls".split(" ")) {
            Ranges.of(TEXT, 0, 1, Ranges.ARGUMENT, (mill, value) -> mill.set(one.charAt(0), one.charAt(1), value));
        }
        Ranges.of(TEXT, 0, 2, Ranges.ARGUMENT, (mill, value) -> mill.set('b', 't', value));
        Ranges.of(TEXT, 0, 2, Ranges.ARGUMENT, (mill, value) -> mill.set('p', 't', value));
        Reads.to("bt0 bt1", 'b', "{\"a\":1,\"a\":2}", "{\"a\":1}");
        Reads.to("bt1 bt2", 'b', "{\"a\":1,\"a\":2}", "{\"a\":2}");
        Reads.fault("bt2 bt0", 'b', "{\"a\":1,\"a\":2}", 9);
        Reads.fault("bc1 bc0", 'b', "#\n1", 0);
        Reads.fault("be1 be0", 'b', "[1,]", 3);
        says(6, "Returns the value before.");
        RosettaMill mill = new RosettaMill();
        int[] values = {2, 2, 1, 0, 0, 1, 2, 0};
        int before = 0;
        for (int value : values) {
            due("before", mill.set('p', 't', value), before);
            before = value;
        }
        due("before", mill.set('b', 'c', 1), 0);
        due("before", mill.set('b', 'c', 1), 1);
        due("before", mill.set('b', 'c', 0), 1);
        due("before", mill.set('b', 'c', 0), 0);
    }

    private static void readInPlace() {
        says(7, "Reads a tape into a document, in place of what it was.");
        Bench bench = new Bench();
        bench.read("{\"a\":[1,2,3],\"b\":\"x\"}", 'b', 0);
        bench.read("[[[1]]]", 'b', 1);
        bench.read("2", 'b', 0);
        due("document", bench.write(0, 'b'), "2");
        due("values", bench.mill.values(0), 1);
        due("depth", bench.mill.depth(0), 1);
        due("another one", bench.write(1, 'b'), "[[[1]]]");
        due("the tape stays", bench.read("[3]", 'b', 0) + bench.tape(3), "2[3]");
        says(7, "- `tape`: the tape, 0 to 3");
        Ranges.of(TEXT, 0, 3, Ranges.INDEX, (mill, tape) -> mill.read(tape, 'b', 0));
        says(7, "- `dialect`: 'b', 'p' or 'l'");
        Ranges.ofSigns(TEXT, "bpl", Ranges.ARGUMENT, (mill, sign) -> mill.read(0, (char) sign, 0));
        says(7, "- `document`: the document, 0 to 7");
        Ranges.of(TEXT, 0, 7, Ranges.INDEX, (mill, document) -> mill.read(0, 'b', document));
    }

    private static void readAnswers() {
        says(7, "Returns how many values it has, or with a fault -1 less its place, and the document is as it was.");
        Bench bench = new Bench();
        due("none", bench.read("", 'b', 0), -1);
        fails(Ranges.NONE, () -> bench.mill.values(0));
        due("one", bench.read("0", 'b', 0), 1);
        due("two", bench.read("[0]", 'b', 0), 2);
        due("the first byte", bench.read("x", 'b', 0), -1);
        due("the second byte", bench.read("[x", 'b', 0), -2);
        due("the last byte", bench.read(" ".repeat(239) + "x", 'b', 0), -240);
        due("the length", bench.read(" ".repeat(240), 'b', 0), -241);
        due("as it was", bench.write(0, 'b'), "[0]");
        due("the last byte", bench.read(" ".repeat(239) + "5", 'b', 0), 1);
        due("read", bench.write(0, 'b'), "5");
    }

    private static void beginGivesUp() {
        says(8, "Begins to read a text in pieces; one that was under way is given up.");
        Bench bench = new Bench();
        bench.lay(0, "[1");
        bench.mill.begin('b');
        bench.mill.piece(0);
        bench.mill.begin('b');
        due("it begins anew", bench.mill.piece(0), -1);
        bench.lay(0, "]");
        due("it begins anew", bench.mill.piece(0), -1);
        due("finish", bench.mill.finish(0), 2);
        says(8, "- `dialect`: 'b', 'p' or 'l'");
        Ranges.ofSigns(TEXT, "bpl", Ranges.ARGUMENT, (mill, sign) -> mill.begin((char) sign));
        for (char dialect : "bpl".toCharArray()) {
            bench.mill.begin(dialect);
            bench.lay(0, dialect == 'b' ? "[]" : dialect == 'p' ? "()" : "=[]");
            due("dialect", bench.mill.piece(0), -1);
            due("dialect", bench.mill.finish(0), 1);
        }
        says(8, "Returns whether one was under way.");
        due("none", bench.mill.begin('b'), false);
        due("one", bench.mill.begin('p'), true);
        due("one", bench.mill.begin('p'), true);
        bench.mill.finish(0);
        due("none", bench.mill.begin('l'), false);
        bench.lay(0, "x");
        bench.mill.piece(0);
        due("one with a fault", bench.mill.begin('l'), true);
    }

    private static void pieceFaults() {
        says(9, "Reads a tape as the next piece of the text that is under way.");
        Bench bench = new Bench();
        bench.mill.begin('b');
        for (String piece : new String[] {"", "{\"a", "", "b\":1", "2", "}", " "}) {
            bench.lay(1, piece);
            due("piece", bench.mill.piece(1), -1);
            due("the tape stays", bench.tape(1), piece);
        }
        due("finish", bench.mill.finish(0), 2);
        due("document", bench.write(0, 'b'), "{\"ab\":12}");
        says(9, "- `tape`: the tape, 0 to 3");
        Ranges.of(TEXT, 0, 3, Ranges.INDEX, (mill, tape) -> (mill.begin('b') ? 1 : 0) + mill.piece(tape));
        says(9, "Returns -1, or the place of the fault in all of the text, if it is a byte that came already.");
        String[] pieces = {"[1", " ", "x", "", "]", "x"};
        int[] answers = {-1, -1, 3, 3, 3, 3};
        bench.mill.begin('b');
        for (int i = 0; i < pieces.length; i++) {
            bench.lay(1, pieces[i]);
            due("piece " + i, bench.mill.piece(1), answers[i]);
        }
        due("finish", bench.mill.finish(0), -4);
        bench.mill.begin('b');
        bench.lay(1, "x");
        due("the first byte", bench.mill.piece(1), 0);
        bench.mill.begin('b');
        bench.lay(1, " ".repeat(240));
        due("blanks", bench.mill.piece(1), -1);
        bench.lay(1, " ".repeat(239) + "x");
        due("the last byte", bench.mill.piece(1), 479);
        due("finish", bench.mill.finish(0), -480);
        bench.mill.begin('b');
        due("what ends too early is not told", bench.mill.finish(0), -1);
    }

    private static void piecesUpTo480() {
        for (int first = 0; first <= 240; first += 60) {
            Bench bench = new Bench();
            bench.mill.begin('b');
            bench.lay(0, " ".repeat(240));
            bench.lay(1, " ".repeat(first));
            bench.lay(2, " ".repeat(241 - Math.max(first, 1)));
            due("240", bench.mill.piece(0), -1);
            due("up to 480", bench.mill.piece(1), -1);
            if (first > 0) {
                // 240 and first and 241 less first are 481.
                fails(Ranges.STATE, () -> bench.mill.piece(2));
            }
            bench.lay(2, "1" + " ".repeat(240 - first).substring(Math.min(1, 240 - first)));
            if (first < 240) {
                due("480", bench.mill.piece(2), -1);
                fails(Ranges.STATE, () -> bench.mill.piece(0));
                bench.lay(2, "1");
                fails(Ranges.STATE, () -> bench.mill.piece(2));
                bench.lay(2, "");
                due("none more", bench.mill.piece(2), -1);
                due("480 are read", bench.mill.finish(0), 1);
            } else {
                fails(Ranges.STATE, () -> bench.mill.piece(2));
                due("480 without a value", bench.mill.finish(0), -481);
            }
        }
    }

    private static void finish() {
        says(10, "Ends the text that is under way, and makes it a document.");
        Bench bench = new Bench();
        bench.read("\"as it was\"", 'b', 7);
        bench.mill.begin('p');
        bench.lay(0, "(1 2)");
        bench.mill.piece(0);
        due("finish", bench.mill.finish(7), 3);
        due("document", bench.write(7, 'b'), "[1,2]");
        fails(Ranges.STATE, () -> bench.mill.finish(7));
        fails(Ranges.STATE, () -> bench.mill.piece(0));
        says(10, "- `document`: the document, 0 to 7");
        Ranges.of(TEXT, 0, 7, Ranges.INDEX, (mill, document) -> (mill.begin('b') ? 1 : 0) + mill.finish(document));
        says(10, "Returns as read() tells it.");
        for (String text : new String[] {"", "[", "[1", "[1]", "[1]x", "x", "[1,2] ", "\"a", "-"}) {
            bench.mill.begin('b');
            bench.lay(0, text);
            bench.mill.piece(0);
            int answer = bench.mill.finish(1);
            due(text, answer, bench.mill.read(0, 'b', 2));
        }
        bench.mill.begin('b');
        bench.lay(0, "x");
        bench.mill.piece(0);
        due("with a fault", bench.mill.finish(7), -1);
        due("as it was", bench.write(7, 'b'), "[1,2]");
        fails(Ranges.STATE, () -> bench.mill.finish(7));
        due("settings can be changed again", bench.mill.set('b', 'c', 1), 0);
    }

    private static void writeInPlace() {
        says(11, "Writes a document onto a tape, in place of what it had.");
        Bench bench = new Bench();
        bench.read("[1]", 'b', 0);
        bench.lay(0, "what it had, and it was long");
        bench.lay(1, "another tape");
        due("write", bench.mill.write(0, 'b', 0), 3);
        due("the tape", bench.tape(0), "[1]");
        due("another one", bench.tape(1), "another tape");
        due("the document stays", bench.mill.values(0), 2);
        says(11, "- `document`: the document");
        Ranges.of(TEXT, 0, 7, Ranges.NONE, (mill, document) -> mill.write(document, 'b', 0));
        says(11, "- `dialect`: 'b', 'p' or 'l'");
        Ranges.ofSigns(TEXT, "bpl", Ranges.ARGUMENT, (mill, sign) -> mill.write(0, (char) sign, 0));
        says(11, "- `tape`: the tape, 0 to 3");
        Ranges.of(TEXT, 0, 3, Ranges.INDEX, (mill, tape) -> mill.write(0, 'b', tape));
    }

    private static void writeUpTo240() {
        says(11, "Returns the length of the tape.");
        for (char dialect : "bpl".toCharArray()) {
            for (int last = 0; last <= 20; last++) {
                for (int many = 7; many <= 10; many++) {
                    String text = ("\"" + "x".repeat(20) + "\",").repeat(many) + "\"" + "x".repeat(last) + "\"";
                    int due = dialect == 'l' ? text.length() - many + 5 * (many + 1) + (many < 10 ? 0 : 1)
                        : text.length() + 2;
                    written("[" + text + "]", dialect, due);
                }
            }
        }
    }

    private static void written(String text, char dialect, int length) {
        Bench bench = new Bench();
        bench.readLong(text, 'b', 0);
        bench.lay(0, "as it was");
        if (length <= 240) {
            due(dialect + text, bench.mill.write(0, dialect, 0), length);
            due(dialect + text, bench.mill.length(0), length);
        } else {
            fails(Ranges.UNSUPPORTED, () -> bench.mill.write(0, dialect, 0));
            due(dialect + text, bench.tape(0), "as it was");
        }
    }
}
