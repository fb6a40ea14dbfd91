import java.util.NoSuchElementException;

/** At least one test for each promise of the document, named by its number. */
public final class PromiseTest {
    private static final Class<IndexOutOfBoundsException> INDEX = IndexOutOfBoundsException.class;
    private static final Class<IllegalArgumentException> ARGUMENT = IllegalArgumentException.class;
    private static final Class<IllegalStateException> STATE = IllegalStateException.class;
    private static final Class<NoSuchElementException> NONE = NoSuchElementException.class;
    private static final Class<UnsupportedOperationException> UNSUPPORTED = UnsupportedOperationException.class;
    private static final Class<ArithmeticException> ARITHMETIC = ArithmeticException.class;
    private static final String LONG_TEXT = "\"abcdefghijklmnopqrst\"";

    public static void main(String[] args) {
        newObject();
        type();
        clearLengthByteAt();
        set();
        readBraces();
        readBraceTwins();
        readNumbers();
        readTexts();
        readParens();
        readNames();
        readLines();
        readDepth();
        readMany();
        readWrongly();
        beginPieceFinish();
        write();
        writeByRisingKeys();
        select();
        selectFaults();
        selected();
        floatOf();
        replace();
        remove();
        put();
        change();
        columns();
        rows();
        differences();
        merge();
        mergeTooMuch();
        figures();
        sum();
        shares();
        isSound();
        Bench.end("PromiseTest");
    }

    private static void due(String what, Object got, Object due) {
        Bench.due(what, got, due);
    }

    private static void fails(String what, Class<? extends RuntimeException> due, Bench.Call call) {
        Bench.fails(what, due, call);
    }

    private static Bench with(String... documents) {
        Bench bench = new Bench();
        for (int i = 0; i < documents.length; i++) {
            int answer = bench.read(documents[i], 'b', i);
            if (answer < 0) {
                due("1 read " + documents[i], answer, "no fault");
            }
        }
        return bench;
    }

    // Promise 1

    private static void newObject() {
        Bench bench = new Bench();
        for (int i = 0; i < 4; i++) {
            due("1 length", bench.mill.length(i), 0);
        }
        for (int i = 0; i < 8; i++) {
            int document = i;
            fails("1 values", NONE, () -> bench.mill.values(document));
        }
        for (String setting : new String[] {"bc", "be", "bs", "bt", "pc", "ps", "pt", "ls"}) {
            due("1 setting " + setting, bench.mill.set(setting.charAt(0), setting.charAt(1), 0), 0);
        }
        due("1 twins", bench.read("{\"a\":1,\"a\":2}", 'b', 0), -10);
        due("1 twins", bench.read("(:\"a\" 1\"a\" 2)", 'p', 0), -10);
        fails("1 kindOf", INDEX, () -> bench.mill.kindOf(0));
    }

    // Promises 2 to 5

    private static void type() {
        Bench bench = new Bench();
        due("2 type", bench.mill.type(1, 0x61626364, 4), 4);
        due("2 type", bench.mill.type(1, 0x7f7f00ff, 2), 6);
        due("2 type", bench.mill.type(1, -1, 1), 7);
        due("2 type", bench.mill.type(1, 0x09010203, 3), 10);
        due("2 bytes", bench.tape(1), "abcd\0\u00ff\u00ff\1\2\3");
        fails("2 type", INDEX, () -> bench.mill.type(4, 0, 5));
        fails("2 type", INDEX, () -> bench.mill.type(-1, 0, 1));
        fails("2 type", ARGUMENT, () -> bench.mill.type(0, 0, 0));
        fails("2 type", ARGUMENT, () -> bench.mill.type(0, 0, 5));
        for (int i = 0; i < 59; i++) {
            bench.mill.type(0, 0, 4);
        }
        due("2 type", bench.mill.type(0, 0, 1), 237);
        fails("2 type", STATE, () -> bench.mill.type(0, 0, 4));
        fails("2 type", ARGUMENT, () -> bench.mill.type(0, 0, -1));
        due("2 nothing changed", bench.mill.length(0), 237);
        due("2 type", bench.mill.type(0, 0, 3), 240);
        fails("2 type", STATE, () -> bench.mill.type(0, 0, 1));
    }

    private static void clearLengthByteAt() {
        Bench bench = new Bench();
        bench.lay(2, "xyz");
        due("4 length", bench.mill.length(2), 3);
        due("5 byteAt", bench.mill.byteAt(2, 2), (int) 'z');
        fails("5 byteAt", INDEX, () -> bench.mill.byteAt(2, 3));
        fails("5 byteAt", INDEX, () -> bench.mill.byteAt(2, -1));
        fails("5 byteAt", INDEX, () -> bench.mill.byteAt(4, 0));
        fails("4 length", INDEX, () -> bench.mill.length(4));
        fails("4 length", INDEX, () -> bench.mill.length(-1));
        due("3 clear", bench.mill.clear(2), 3);
        due("3 clear", bench.mill.clear(2), 0);
        fails("3 clear", INDEX, () -> bench.mill.clear(4));
        fails("5 byteAt", INDEX, () -> bench.mill.byteAt(2, 0));
    }

    // Promise 6

    private static void set() {
        Bench bench = new Bench();
        due("6 set", bench.mill.set('b', 't', 2), 0);
        due("6 set", bench.mill.set('b', 't', 1), 2);
        due("6 other dialect", bench.mill.set('p', 't', 0), 0);
        due("6 set", bench.mill.set('l', 's', 1), 0);
        due("6 set", bench.mill.set('l', 's', 1), 1);
        for (String wrong : new String[] {"xs", "pe", "lc", "le", "lt", "bx", "Bs"}) {
            fails("6 set " + wrong, ARGUMENT, () -> bench.mill.set(wrong.charAt(0), wrong.charAt(1), 0));
        }
        fails("6 set", ARGUMENT, () -> bench.mill.set('b', 't', 3));
        fails("6 set", ARGUMENT, () -> bench.mill.set('b', 't', -1));
        fails("6 set", ARGUMENT, () -> bench.mill.set('b', 'c', 2));
        bench.mill.begin('l');
        fails("6 set", ARGUMENT, () -> bench.mill.set('b', 'c', 2));
        fails("6 set", STATE, () -> bench.mill.set('b', 'c', 1));
        bench.mill.finish(0);
        due("6 set", bench.mill.set('b', 'c', 1), 0);
    }

    // Promise 7

    private static void readsTo(Bench bench, char dialect, String text, String written) {
        bench.read("\"none\"", 'b', 0);
        int answer = bench.read(text, dialect, 0);
        due("7 read " + text, bench.write(0, 'b'), written);
        due("7 read " + text, answer, bench.mill.values(0));
    }

    private static void faultAt(Bench bench, char dialect, String text, int place) {
        bench.read("\"as it was\"", 'b', 0);
        due("7 fault in " + text, bench.read(text, dialect, 0), -1 - place);
        due("7 the document", bench.write(0, 'b'), "\"as it was\"");
    }

    private static void readBraces() {
        Bench bench = new Bench();
        readsTo(bench, 'b', " [ null , true\n,false,[ ],{ } , \"\" ] \n", "[null,true,false,[],{},\"\"]");
        readsTo(bench, 'b', "{\"b\" : {\"a\":[0]} ,\"a\": 1 }", "{\"b\":{\"a\":[0]},\"a\":1}");
        readsTo(bench, 'b', "null", "null");
        faultAt(bench, 'b', "", 0);
        faultAt(bench, 'b', " ", 1);
        faultAt(bench, 'b', "nul", 3);
        faultAt(bench, 'b', "nulL", 3);
        faultAt(bench, 'b', "nn", 1);
        faultAt(bench, 'b', "y", 0);
        faultAt(bench, 'b', "[1 2]", 3);
        faultAt(bench, 'b', "[,]", 1);
        faultAt(bench, 'b', "[1,,]", 3);
        faultAt(bench, 'b', "[1}", 2);
        faultAt(bench, 'b', "{\"a\",", 4);
        faultAt(bench, 'b', "{1:2}", 1);
        faultAt(bench, 'b', "{\"a\"1}", 4);
        faultAt(bench, 'b', "{\"a\" {}}", 5);
        faultAt(bench, 'b', "{,}", 1);
        faultAt(bench, 'b', "[", 1);
        faultAt(bench, 'b', "{\"a\":", 5);
        faultAt(bench, 'b', "{\"a\":1,}", 7);
        faultAt(bench, 'b', "[1] 2", 4);
        faultAt(bench, 'b', "[1] #", 4);
        faultAt(bench, 'b', "[1,\t2]", 3);
        bench.mill.set('b', 'e', 1);
        readsTo(bench, 'b', "[1, ]", "[1]");
        readsTo(bench, 'b', "{\"a\":1 , }", "{\"a\":1}");
        faultAt(bench, 'b', "[,]", 1);
        faultAt(bench, 'b', "{,}", 1);
        faultAt(bench, 'b', "[1,,]", 3);
        bench.mill.set('b', 'c', 1);
        readsTo(bench, 'b', "#\u00ff]\n[#[[\n1#\n]#", "[1]");
        faultAt(bench, 'b', "[1#]", 4);
        faultAt(bench, 'b', "# 1", 3);
    }

    private static void readBraceTwins() {
        Bench bench = new Bench();
        faultAt(bench, 'b', "{\"a\":1,\"b\":2,\"a\":3}", 15);
        faultAt(bench, 'b', "{\"abcdefghijklmnopqrst\":1,\"abcdefghijklmnopqrst\":2}", 47);
        readsTo(bench, 'b', "{\"a\":{\"a\":1},\"b\":{\"a\":2}}", "{\"a\":{\"a\":1},\"b\":{\"a\":2}}");
        bench.mill.set('b', 't', 1);
        readsTo(bench, 'b', "{\"a\":1,\"b\":2,\"a\":[3,{\"c\":1,\"c\":2}],\"a\":4}", "{\"a\":1,\"b\":2}");
        bench.mill.set('b', 't', 2);
        readsTo(bench, 'b', "{\"a\":1,\"b\":2,\"a\":[3,{\"c\":1,\"c\":2}]}", "{\"a\":[3,{\"c\":2}],\"b\":2}");
        readsTo(bench, 'b', "{\"a\":1,\"b\":2,\"a\":3,\"a\":4,\"b\":5}", "{\"a\":4,\"b\":5}");
    }

    private static void readNumbers() {
        Bench bench = new Bench();
        for (String number : new String[] {"0", "-0", "0.0", "-0.0000", "123456789", "-99999.9999", "1.50", "0.0001",
            "12345678.9", "10"}) {
            readsTo(bench, 'b', number, number);
            readsTo(bench, 'p', number, number);
        }
        faultAt(bench, 'b', "01", 1);
        faultAt(bench, 'b', "-", 1);
        faultAt(bench, 'b', "--1", 1);
        faultAt(bench, 'b', "+1", 0);
        faultAt(bench, 'b', ".5", 0);
        faultAt(bench, 'b', "1.", 2);
        faultAt(bench, 'b', "1.x", 2);
        faultAt(bench, 'b', "1.12345", 6);
        faultAt(bench, 'b', "1.5.", 3);
        faultAt(bench, 'b', "1234567890", 9);
        faultAt(bench, 'b', "123456789.", 9);
        faultAt(bench, 'b', "12345678.12", 10);
        faultAt(bench, 'b', "-123456.1234", 11);
        faultAt(bench, 'p', "(01)", 2);
        faultAt(bench, 'l', "=00\n", 2);
    }

    private static void readTexts() {
        Bench bench = new Bench();
        readsTo(bench, 'b', "\"\\\"\\\\\\n ~\"", "\"\\\"\\\\\\n ~\"");
        readsTo(bench, 'b', LONG_TEXT, LONG_TEXT);
        faultAt(bench, 'b', "\"abcdefghijklmnopqrstu\"", 21);
        faultAt(bench, 'b', "\"abcdefghijklmnopqrst\\n\"", 21);
        faultAt(bench, 'b', "\"a", 2);
        faultAt(bench, 'b', "\"a\\", 3);
        faultAt(bench, 'b', "\"a\\t", 3);
        faultAt(bench, 'b', "\"a\n\"", 2);
        faultAt(bench, 'b', "\"\u007f\"", 1);
        faultAt(bench, 'b', "\"\u00e9\"", 1);
        faultAt(bench, 'b', "\"\u001f\"", 1);
        due("7 escaped bytes count once", bench.read("\"" + "\\n".repeat(20) + "\"", 'b', 1), 1);
        due("7 escaped bytes count once", bench.read("\"" + "\\n".repeat(21) + "\"", 'b', 1), -42);
    }

    private static void readParens() {
        Bench bench = new Bench();
        readsTo(bench, 'p', " ( n y f 1\n\"a\"2(3)n(:)-4 ) ", "[null,true,false,1,\"a\",2,[3],null,{},-4]");
        readsTo(bench, 'p', "(:\"a\"1\"b\"(:\"c\"n)\"d\"y)", "{\"a\":1,\"b\":{\"c\":null},\"d\":true}");
        readsTo(bench, 'p', "(: \"a\" n )", "{\"a\":null}");
        readsTo(bench, 'p', "()", "[]");
        faultAt(bench, 'p', "( :)", 2);
        faultAt(bench, 'p', "(1y)", 2);
        faultAt(bench, 'p', "(yf)", 2);
        faultAt(bench, 'p', "(n1)", 2);
        faultAt(bench, 'p', "(n-1)", 2);
        faultAt(bench, 'p', "(1-1)", 2);
        faultAt(bench, 'p', "(:n)", 2);
        faultAt(bench, 'p', "(:\"a\")", 5);
        faultAt(bench, 'p', "(:\"a\"1n)", 6);
        faultAt(bench, 'p', "(,)", 1);
        faultAt(bench, 'p', "(1", 2);
        faultAt(bench, 'p', "1 1", 2);
        faultAt(bench, 'p', "(1#\n)", 2);
        bench.mill.set('p', 'c', 1);
        readsTo(bench, 'p', "(1#\n2)#", "[1,2]");
        faultAt(bench, 'p', "(:\"a\"1\"a\"2)", 8);
        bench.mill.set('p', 't', 1);
        readsTo(bench, 'p', "(:\"a\"1\"b\"2\"a\"3)", "{\"a\":1,\"b\":2}");
        bench.mill.set('p', 't', 2);
        readsTo(bench, 'p', "(:\"a\"1\"b\"2\"a\"3)", "{\"a\":3,\"b\":2}");
    }

    private static void readNames() {
        Bench bench = new Bench();
        readsTo(bench, 'p', "(&1 5*1*1 6)", "[5,5,5,6]");
        readsTo(bench, 'p', "(&15*15)", "[5,5,5]");
        readsTo(bench, 'p', "(1&12*1)", "[1,2,2]");
        readsTo(bench, 'p', "(&0&9 \"x\" &0 7 *0*9)", "[\"x\",7,7,\"x\"]");
        readsTo(bench, 'p', "(&1 5 &1(6 *1)*1)", "[5,[6,5],[6,5]]");
        readsTo(bench, 'p', "(&1(:\"a\"&2&3(y))&4*1*4*3)", "[{\"a\":[true]},{\"a\":[true]},{\"a\":[true]},[true]]");
        readsTo(bench, 'p', "&1 n", "null");
        faultAt(bench, 'p', "*1", 1);
        faultAt(bench, 'p', "(*1)", 2);
        faultAt(bench, 'p', "(&1(*1))", 5);
        faultAt(bench, 'p', "(&1 5 *2)", 7);
        faultAt(bench, 'p', "(& 1 5)", 2);
        faultAt(bench, 'p', "(&1 5 * 1)", 7);
        faultAt(bench, 'p', "(&a)", 2);
        faultAt(bench, 'p', "(&1)", 3);
        faultAt(bench, 'p', "&1", 2);
        faultAt(bench, 'p', "(:&1\"a\"2)", 2);
        faultAt(bench, 'p', "(&1\"a\":2)", 6);
        bench.mill.set('p', 't', 1);
        readsTo(bench, 'p', "(:\"a\"1\"a\"&1(:\"b\"2\"b\"3)\"c\"*1)", "{\"a\":1,\"c\":{\"b\":2}}");
        bench.mill.set('p', 't', 2);
        readsTo(bench, 'p', "(:\"a\"&1(:\"b\"2\"b\"3)\"a\"4\"c\"*1)", "{\"a\":4,\"c\":{\"b\":3}}");
    }

    private static void readLines() {
        Bench bench = new Bench();
        readsTo(bench, 'l', "=5", "5");
        readsTo(bench, 'l', "={}\n", "{}");
        readsTo(bench, 'l', ".\"b\"[0]=1\n.\"b\"[1]=[]\n.\"a\".\"\\n\"=\"x\"\n", "{\"b\":[1,[]],\"a\":{\"\\n\":\"x\"}}");
        readsTo(bench, 'l', "[0][0]=1\n[0][1]=2\n[1]=null", "[[1,2],null]");
        StringBuilder many = new StringBuilder();
        for (int i = 0; i < 12; i++) {
            many.append("[").append(i).append("][0]=0\n");
        }
        due("7 many lines", bench.read(many.toString(), 'l', 1), 25);
        due("7 goes on in 11", bench.read(many + "[11][1]=0", 'l', 1), 26);
        faultAt(bench, 'l', many + "[10]", many.length() + 2);
        faultAt(bench, 'l', many + "[13]", many.length() + 2);
        faultAt(bench, 'l', many + "[1]", many.length() + 2);
        faultAt(bench, 'l', many + "[12]x", many.length() + 4);
        faultAt(bench, 'l', many + "[2", many.length() + 1);
        faultAt(bench, 'l', many + "[11]=1", many.length() + 4);
        faultAt(bench, 'l', "", 0);
        faultAt(bench, 'l', "5", 0);
        faultAt(bench, 'l', "=5\n\n", 3);
        faultAt(bench, 'l', "=5\n=", 3);
        faultAt(bench, 'l', "= 5", 1);
        faultAt(bench, 'l', "=5 ", 2);
        faultAt(bench, 'l', "=[1]", 2);
        faultAt(bench, 'l', "={]", 2);
        faultAt(bench, 'l', "[1]=5", 1);
        faultAt(bench, 'l', "[00]=5", 2);
        faultAt(bench, 'l', "[0]=1\n[0]=2", 7);
        faultAt(bench, 'l', "[0]=1\n.\"a\"=2", 6);
        faultAt(bench, 'l', "[0]=[]\n[0][0]=2", 8);
        faultAt(bench, 'l', "=[]\n[0]=2", 4);
        faultAt(bench, 'l', "={}\n.\"a\"=2", 4);
        faultAt(bench, 'l', ".\"a\"={}\n.\"a\".\"b\"=2", 11);
        faultAt(bench, 'l', "[0].\"a\"=1\n[0][0]=2", 13);
        faultAt(bench, 'l', ".\"a\"=1\n.\"a\"=2", 10);
        faultAt(bench, 'l', ".\"a\"[0]=1\n.\"b\"=2\n.\"a\"[1]=3", 20);
        faultAt(bench, 'l', ".\"a\"[0]=1\n.\"a\"=2", 14);
        faultAt(bench, 'l', ".a=1", 1);
        faultAt(bench, 'l', "[0]=n\n", 5);
        faultAt(bench, 'l', "[0]", 3);
    }

    private static void readDepth() {
        Bench bench = new Bench();
        due("7 depth 8", bench.read("[[[[[[[[]]]]]]]]", 'b', 0), 8);
        due("7 depth 8", bench.read("[[[[[[[0]]]]]]]", 'b', 0), 8);
        faultAt(bench, 'b', "[[[[[[[[0]]]]]]]]", 8);
        faultAt(bench, 'b', "[[[[[[[[x", 8);
        faultAt(bench, 'b', "[[[[[[[[,0]", 8);
        faultAt(bench, 'p', "(((((((()0))))))", 16);
        faultAt(bench, 'b', "[[[[[[[{\"a\": 0", 13);
        faultAt(bench, 'p', "((((((((&1 0", 11);
        faultAt(bench, 'p', "((((((((&1&2 )", 13);
        faultAt(bench, 'p', "(&1(2)((((((*1", 13);
        faultAt(bench, 'p', "((((((((*1", 9);
        due("7 a name that is deep enough", bench.read("(&1(2)(((((*1))))))", 'p', 0), 10);
        String deep = "[0]".repeat(7);
        due("7 depth 8", bench.read(deep + "=0", 'l', 0), 8);
        faultAt(bench, 'l', deep + "[0]=0", 21);
        faultAt(bench, 'l', deep + ".\"a\"=0", 21);
        faultAt(bench, 'l', deep + "=[0", 23);
    }

    private static void readMany() {
        Bench bench = new Bench();
        String hundred = "1" + ",1".repeat(98);
        bench.mill.set('b', 't', 1);
        bench.mill.set('p', 't', 1);
        bench.mill.begin('b');
        bench.lay(0, "[" + hundred);
        bench.lay(1, "," + hundred + ",");
        due("9 piece", bench.mill.piece(0), -1);
        due("9 piece", bench.mill.piece(1), -1);
        bench.lay(2, "1 ");
        due("9 piece", bench.mill.piece(2), -1);
        bench.lay(2, ",");
        due("9 what would be too many is not told ahead", bench.mill.piece(2), -1);
        bench.lay(2, " 1");
        due("9 too many", bench.mill.piece(2), 401);
        due("10 too many", bench.mill.finish(0), -402);
        String names = "(&1(1 1 1 1 1 1 1 1 1)" + "*1".repeat(18);
        due("7 200 values", bench.read(names + "(2 2 2 2 2 2 2 2))", 'p', 0), 200);
        due("7 too many by a name", bench.read(names + "*1)", 'p', 1), -1 - names.length() - 1);
        due("7 too many", bench.read(names + "(2 2 2 2 2 2 2 2)&4 3)", 'p', 1), -1 - names.length() - 20);
        due("7 any name", bench.read(names + "(2 2 2 2 2 2 2 2)*1)", 'p', 1), -1 - names.length() - 18);
        String left = "(&1(:\"a\"1\"a\"(1 1 1 1 1 1 1))" + "*1".repeat(94);
        due("7 left out ones count, but not in a copy", bench.read(left + "n)", 'p', 1), 192);
        due("7 left out ones count", bench.read(left + "n n)", 'p', 1), -1 - left.length() - 2);
    }

    private static void readWrongly() {
        Bench bench = new Bench();
        bench.lay(0, "1");
        fails("7 read", INDEX, () -> bench.mill.read(4, 'x', 0));
        fails("7 read", INDEX, () -> bench.mill.read(0, 'x', 8));
        fails("7 read", INDEX, () -> bench.mill.read(0, 'b', -1));
        fails("7 read", ARGUMENT, () -> bench.mill.read(0, 'x', 0));
        due("7 read", bench.mill.read(0, 'b', 7), 1);
    }

    // Promises 8 to 10

    private static void beginPieceFinish() {
        Bench bench = new Bench();
        fails("8 begin", ARGUMENT, () -> bench.mill.begin('x'));
        fails("9 piece", INDEX, () -> bench.mill.piece(4));
        fails("9 piece", STATE, () -> bench.mill.piece(0));
        fails("10 finish", INDEX, () -> bench.mill.finish(8));
        fails("10 finish", STATE, () -> bench.mill.finish(0));
        due("8 begin", bench.mill.begin('p'), false);
        due("8 begin", bench.mill.begin('b'), true);
        fails("8 begin", ARGUMENT, () -> bench.mill.begin('x'));
        String text = " {\"a\\n\":[-12.50,nul";
        for (int i = 0; i < text.length(); i++) {
            bench.lay(0, text.substring(i, i + 1));
            due("9 piece", bench.mill.piece(0), -1);
        }
        fails("10 finish", INDEX, () -> bench.mill.finish(-1));
        bench.lay(0, "l]}");
        due("9 piece", bench.mill.piece(0), -1);
        due("7 between", bench.read("[1]", 'b', 1), 2);
        due("10 finish", bench.mill.finish(0), 4);
        due("10 finish", bench.write(0, 'b'), "{\"a\\n\":[-12.50,null]}");
        fails("10 finish", STATE, () -> bench.mill.finish(0));
        bench.mill.begin('l');
        bench.lay(0, "[0]=1\n[0");
        due("9 piece", bench.mill.piece(0), 7);
        bench.lay(0, "]");
        due("9 the fault stays", bench.mill.piece(0), 7);
        due("10 with a fault", bench.mill.finish(0), -8);
        due("10 as it was", bench.mill.values(0), 4);
        fails("10 it has ended", STATE, () -> bench.mill.piece(0));
        bench.mill.begin('b');
        bench.lay(0, " ".repeat(240));
        due("9 piece", bench.mill.piece(0), -1);
        due("9 piece", bench.mill.piece(0), -1);
        bench.lay(0, "1");
        fails("9 too long", STATE, () -> bench.mill.piece(0));
        bench.lay(0, "");
        due("9 empty piece", bench.mill.piece(0), -1);
        due("10 ends too early", bench.mill.finish(0), -481);
    }

    // Promise 11

    private static void write() {
        Bench bench = with("{\"a\":[null,true,false,-1.50,-0.0,{}],\"\\\"\\\\\\n\":[[]]}", "\"x\"");
        due("11 b", bench.write(0, 'b'), "{\"a\":[null,true,false,-1.50,-0.0,{}],\"\\\"\\\\\\n\":[[]]}");
        due("11 p", bench.write(0, 'p'), "(:\"a\" (n y f -1.50 -0.0 (:)) \"\\\"\\\\\\n\" (()))");
        due("11 l", bench.write(0, 'l'), ".\"a\"[0]=null\n.\"a\"[1]=true\n.\"a\"[2]=false\n.\"a\"[3]=-1.50\n"
            + ".\"a\"[4]=-0.0\n.\"a\"[5]={}\n.\"\\\"\\\\\\n\"[0]=[]\n");
        due("11 scalar", bench.write(1, 'l'), "=\"x\"\n");
        bench.lay(0, "as it was");
        fails("11 write", INDEX, () -> bench.mill.write(5, 'x', 4));
        fails("11 write", NONE, () -> bench.mill.write(5, 'x', 0));
        fails("11 write", NONE, () -> bench.mill.write(8, 'b', 0));
        fails("11 write", NONE, () -> bench.mill.write(-1, 'b', 0));
        fails("11 write", ARGUMENT, () -> bench.mill.write(0, 'x', 0));
        String row = LONG_TEXT + ("," + LONG_TEXT).repeat(9);
        bench.read("[" + row + ",1234567]", 'b', 2);
        due("11 240 bytes", bench.mill.write(2, 'b', 1), 239);
        bench.read("[" + row + ",12345678]", 'b', 2);
        due("11 240 bytes", bench.mill.write(2, 'b', 1), 240);
        bench.change(2, "[10]", '*', 10);
        bench.lay(0, "as it was");
        fails("11 241 bytes", UNSUPPORTED, () -> bench.mill.write(2, 'b', 0));
        fails("11 lines", UNSUPPORTED, () -> bench.mill.write(2, 'l', 0));
        due("11 nothing changed", bench.tape(0), "as it was");
    }

    private static void writeByRisingKeys() {
        Bench bench = with("{\"b\":{\"z\":1,\"y\":2},\"ab\":3,\"\":4,\"a\":5,\"a\\n\":6,\"B\":[7,0]}");
        String asItStands = bench.write(0, 'b');
        bench.mill.set('p', 's', 1);
        due("11 b", bench.write(0, 'b'), asItStands);
        due("11 p", bench.write(0, 'p'), "(:\"\" 4 \"B\" (7 0) \"a\" 5 \"a\\n\" 6 \"ab\" 3 \"b\" (:\"y\" 2 \"z\" 1))");
        bench.mill.set('b', 's', 1);
        due("11 b", bench.write(0, 'b'), "{\"\":4,\"B\":[7,0],\"a\":5,\"a\\n\":6,\"ab\":3,\"b\":{\"y\":2,\"z\":1}}");
        bench.mill.set('l', 's', 1);
        due("11 l", bench.write(0, 'l'), ".\"\"=4\n.\"B\"[0]=7\n.\"B\"[1]=0\n.\"a\"=5\n.\"a\\n\"=6\n.\"ab\"=3\n"
            + ".\"b\".\"y\"=2\n.\"b\".\"z\"=1\n");
        due("11 keys stay as they came", bench.mill.set('b', 's', 0), 1);
        due("11 b", bench.write(0, 'b'), asItStands);
    }

    // Promises 12 to 16

    private static String numbers(Bench bench, int many) {
        StringBuilder text = new StringBuilder();
        for (int i = 0; i < many; i++) {
            char kind = bench.mill.kindOf(i);
            text.append(kind);
            if (kind == 'n') {
                text.append(bench.mill.numberOf(i));
            }
        }
        return text.toString();
    }

    private static void selects(Bench bench, String path, String due) {
        int many = bench.select(0, path);
        due("12 select " + path, many < 0 ? "fault" : numbers(bench, many), due);
    }

    private static void select() {
        Bench bench = with("{\"a\":[1,[2,3],{\"a\":4}],\"b\":{\"a\":5,\"c\":[6]},\"c\":7}");
        selects(bench, "", "m");
        selects(bench, ".\"a\"", "r");
        selects(bench, ".\"x\"", "");
        selects(bench, "*", "rmn7");
        selects(bench, "**", "n1rmn5r");
        selects(bench, "***", "n2n3n4n6");
        selects(bench, "?", "mrn1rn2n3mn4mn5rn6n7");
        selects(bench, "??", "mrn1rn2n3mn4mn5rn6n7");
        selects(bench, "?.\"a\"", "rn4n5");
        selects(bench, "*.\"a\"", "n5");
        selects(bench, "?[0]", "n1n2n6");
        selects(bench, "?*", "rmn7n1rmn2n3n4n5rn6");
        selects(bench, ".\"a\"[2]*", "n4");
        selects(bench, ".\"a\"[3]", "");
        selects(bench, "[0]", "");
        selects(bench, "?.\"c\"?", "n7rn6");
        selects(bench, ".\"a\".\"a\"", "");
        bench.read("[" + "1,".repeat(98) + "{}]", 'b', 1);
        bench.put(1, "[98]", "k", 1);
        for (int i = 0; i < 2; i++) {
            due("12 200 values", bench.select(1, "?"), 200);
            due("12 the last one", bench.select(1, "*.\"k\"[98]"), 1);
        }
        bench.select(0, "?");
        fails("12 select", INDEX, () -> bench.mill.select(5, 4));
        fails("12 select", NONE, () -> bench.mill.select(5, 0));
        due("12 as it was", numbers(bench, 13), "mrn1rn2n3mn4mn5rn6n7");
    }

    private static void selectFaults() {
        Bench bench = with("[1,2]");
        due("12 select", bench.select(0, "*"), 2);
        due("12 fault", bench.select(0, "x"), -1);
        due("12 fault", bench.select(0, "*x"), -2);
        due("12 fault", bench.select(0, ".x"), -2);
        due("12 fault", bench.select(0, "."), -2);
        due("12 fault", bench.select(0, ".\"a"), -4);
        due("12 fault", bench.select(0, ".\"\\a\""), -4);
        due("12 fault", bench.select(0, ".\"abcdefghijklmnopqrstu\""), -23);
        due("12 fault", bench.select(0, "["), -2);
        due("12 fault", bench.select(0, "[]"), -2);
        due("12 fault", bench.select(0, "[01]"), -3);
        due("12 fault", bench.select(0, "[1000]"), -5);
        due("12 fault", bench.select(0, "[-1]"), -2);
        due("12 fault", bench.select(0, "[1"), -3);
        due("12 fault", bench.select(0, "* "), -2);
        due("12 stays", numbers(bench, 2), "n1n2");
        due("12 select", bench.select(0, "[999]"), 0);
        fails("13 none", INDEX, () -> bench.mill.kindOf(0));
        due("12 select", bench.select(0, "[0]"), 1);
    }

    private static void selected() {
        Bench bench = with("[null,true,false,-1.50,\"a\\n\",[1,[2]],{\"a\":{}},5]");
        due("12 select", bench.select(0, "*"), 8);
        StringBuilder kinds = new StringBuilder();
        StringBuilder sizes = new StringBuilder();
        for (int i = 0; i < 8; i++) {
            kinds.append(bench.mill.kindOf(i));
            sizes.append(bench.mill.sizeOf(i));
        }
        due("13 kindOf", kinds.toString(), "zbbntrmn");
        due("14 sizeOf", sizes.toString(), "01022210");
        due("15 numberOf", bench.mill.numberOf(3), -150);
        due("15 numberOf", bench.mill.numberOf(7), 5);
        for (int index : new int[] {-1, 8, 200, Integer.MAX_VALUE, Integer.MIN_VALUE}) {
            fails("13 kindOf", INDEX, () -> bench.mill.kindOf(index));
            fails("14 sizeOf", INDEX, () -> bench.mill.sizeOf(index));
            fails("15 numberOf", INDEX, () -> bench.mill.numberOf(index));
            fails("16 floatOf", INDEX, () -> bench.mill.floatOf(index));
        }
        for (int index : new int[] {0, 1, 2, 4, 5, 6}) {
            fails("15 numberOf", NONE, () -> bench.mill.numberOf(index));
            fails("16 floatOf", NONE, () -> bench.mill.floatOf(index));
        }
        bench.change(0, "?", '+', 1);
        bench.remove(0, "*");
        due("13 as it was", bench.mill.kindOf(6), 'm');
        due("14 as it was", bench.mill.sizeOf(5), 2);
        due("15 as it was", bench.mill.numberOf(3), -150);
    }

    private static void floatOf() {
        Bench bench = with("[0,-0,0.00,-0.00,1,-1.5,0.1,16777217,999999999,-0.0001,33554431,12345.6789,0.5]");
        String[] due = {"0", "-0", "0", "-0", "1", "-1.5", "0.1", "16777217", "999999999", "-0.0001", "33554431",
            "12345.6789", "0.5"};
        bench.select(0, "*");
        for (int i = 0; i < due.length; i++) {
            due("16 floatOf " + due[i], bench.mill.floatOf(i), Float.floatToIntBits((float) Double.parseDouble(due[i])));
        }
    }

    // Promise 17

    private static void replace() {
        Bench bench = with("{\"a\":[1,2],\"b\":{\"a\":[3]}}", "[9]", "0");
        due("17 replace", bench.replace(0, "?.\"a\"", 1), 2);
        due("17 replace", bench.write(0, 'b'), "{\"a\":[9],\"b\":{\"a\":[9]}}");
        due("17 replace", bench.replace(0, "?", 2), 1);
        due("17 replace", bench.write(0, 'b'), "0");
        bench.read("[1,[2,[3]]]", 'b', 0);
        due("17 in one that was replaced", bench.replace(0, "*?", 1), 2);
        due("17 replace", bench.write(0, 'b'), "[[9],[9]]");
        due("17 by itself", bench.replace(0, "*", 0), 2);
        due("17 by itself", bench.write(0, 'b'), "[[[9],[9]],[[9],[9]]]");
        due("17 by itself", bench.replace(0, "", 0), 1);
        due("17 none", bench.replace(0, "[7]", 1), 0);
        due("17 fault", bench.replace(0, "*x", 1), -2);
        due("17 as it was", bench.write(0, 'b'), "[[[9],[9]],[[9],[9]]]");
        fails("17 replace", INDEX, () -> bench.mill.replace(7, 4, 7));
        fails("17 replace", NONE, () -> bench.mill.replace(7, 0, 0));
        fails("17 replace", NONE, () -> bench.mill.replace(0, 0, 7));
        bench.read("[[[[0]]]]", 'b', 3);
        due("17 replace", bench.replace(0, "[0][0][0]", 3), 1);
        due("17 depth", bench.mill.depth(0), 8);
        fails("17 too deep", UNSUPPORTED, () -> bench.replace(0, "[1][0][0]", 0));
        bench.read("[" + "1,".repeat(13) + "1]", 'b', 4);
        fails("17 too many", UNSUPPORTED, () -> bench.replace(4, "*", 4));
        bench.remove(4, "[0]");
        due("17 many", bench.replace(4, "*", 4), 13);
        due("17 many", bench.mill.values(4), 183);
    }

    // Promise 18

    private static void remove() {
        Bench bench = with("{\"a\":[1,[2,3],4],\"b\":{\"a\":5,\"c\":6}}");
        due("18 remove", bench.remove(0, "?[1]"), 1);
        due("18 remove", bench.write(0, 'b'), "{\"a\":[1,4],\"b\":{\"a\":5,\"c\":6}}");
        due("18 remove", bench.remove(0, "*.\"a\""), 1);
        due("18 remove", bench.write(0, 'b'), "{\"a\":[1,4],\"b\":{\"c\":6}}");
        due("18 the document stays", bench.remove(0, ""), 0);
        due("18 fault", bench.remove(0, "?[x"), -3);
        due("18 as it was", bench.write(0, 'b'), "{\"a\":[1,4],\"b\":{\"c\":6}}");
        due("18 within another one", bench.remove(0, "?"), 2);
        due("18 remove", bench.write(0, 'b'), "{}");
        fails("18 remove", INDEX, () -> bench.mill.remove(7, 4));
        fails("18 remove", NONE, () -> bench.mill.remove(7, 0));
    }

    // Promise 19

    private static void put() {
        Bench bench = with("{\"a\":[1,{\"k\":2}],\"b\":3}", "[0]", "9");
        due("19 put", bench.put(0, "?", "k", 1), 3);
        due("19 put", bench.write(0, 'b'), "{\"a\":[1,{\"k\":[0]},[0]],\"b\":3,\"k\":[0]}");
        due("19 put", bench.put(0, "", "b", 2), 1);
        due("19 put", bench.write(0, 'b'), "{\"a\":[1,{\"k\":[0]},[0]],\"b\":9,\"k\":[0]}");
        due("19 neither row nor map", bench.put(0, ".\"b\"", "b", 2), 0);
        due("19 all that are selected", bench.put(0, "?", "a", 2), 6);
        due("19 put", bench.write(0, 'b'), "{\"a\":9,\"b\":9,\"k\":[0,9]}");
        due("19 itself", bench.put(0, "?", "\n \\", 0), 2);
        due("19 itself", bench.write(0, 'b'), "{\"a\":9,\"b\":9,\"k\":[0,9,{\"a\":9,\"b\":9,\"k\":[0,9]}],"
            + "\"\\n \\\\\":{\"a\":9,\"b\":9,\"k\":[0,9]}}");
        fails("19 put", INDEX, () -> bench.mill.put(7, 4, 0, 7));
        fails("19 put", INDEX, () -> bench.mill.put(7, 0, 4, 7));
        fails("19 put", NONE, () -> bench.mill.put(7, 0, 0, 0));
        fails("19 put", NONE, () -> bench.mill.put(0, 0, 0, 7));
        fails("19 no key", ARGUMENT, () -> bench.put(0, "x", "\t", 1));
        fails("19 no key", ARGUMENT, () -> bench.put(1, "", "a".repeat(21), 1));
        fails("19 no key", ARGUMENT, () -> bench.put(1, "", "\u007f", 1));
        due("19 fault", bench.put(0, "*x", "k", 1), -2);
        due("19 longest key", bench.put(0, "", "a".repeat(20), 1), 1);
        due("19 empty key", bench.put(0, "", "", 1), 1);
        due("19 highest byte", bench.put(0, "", "~", 1), 1);
        bench.read("[[[[[[[[]]]]]]]]", 'b', 3);
        fails("19 too deep", UNSUPPORTED, () -> bench.put(3, "?", "", 1));
        fails("19 too deep", UNSUPPORTED, () -> bench.put(3, "[0][0][0][0][0][0]", "", 1));
        due("19 deep enough", bench.put(3, "[0][0][0][0][0]", "", 1), 1);
        bench.read("[1]", 'b', 4);
        for (int i = 0; i < 6; i++) {
            due("19 doubles", bench.put(4, "", "", 4), 1);
            due("19 doubles", bench.mill.values(4), 4 << i);
            if (i == 5) {
                fails("19 too many", UNSUPPORTED, () -> bench.put(4, "", "", 4));
                due("19 as it was", bench.mill.values(4), 128);
            }
        }
    }

    // Promise 20

    private static void changes(String before, char op, int number, int many, String after) {
        Bench bench = with(before);
        due("20 change " + before + op + number, bench.change(0, "?", op, number), many);
        due("20 change " + before + op + number, bench.write(0, 'b'), after);
    }

    private static void change() {
        changes("[1,2.50,-0,\"x\",[-0.5]]", '+', 5, 4, "[6,2.55,5,\"x\",[0.0]]");
        changes("[0,-0,1]", '+', 0, 1, "[0,0,1]");
        changes("5", '+', 5, 1, "10");
        changes("[5,-0.05]", '+', -5, 2, "[0,-0.10]");
        changes("[0.05,-3,0,-0.0]", '*', -3, 3, "[-0.15,9,0,0.0]");
        changes("[1,-0]", '*', 1, 1, "[1,0]");
        changes("[1.50]", '*', 0, 1, "[0.00]");
        changes("[1.2599,-0.05,-0.000,1.5,2,-9.99,0.01]", 'c', 1, 5, "[1.2,-0.0,-0.0,1.5,2,-9.9,0.0]");
        changes("[1.2599,-0.05]", 'c', 0, 2, "[1,-0]");
        changes("[1.2599]", 'c', 4, 0, "[1.2599]");
        changes("[0,-0,1,-2.0,null]", '-', 123456, 4, "[-0,0,-1,2.0,null]");
        Bench number = with("-999999999");
        fails("20 too many digits", ARITHMETIC, () -> number.change(0, "", '+', -1));
        Bench bench = with("[999999999,1]");
        fails("20 too many digits", ARITHMETIC, () -> bench.change(0, "*", '+', 1));
        fails("20 too many digits", ARITHMETIC, () -> bench.change(0, "*", '*', -999));
        due("20 as it was", bench.write(0, 'b'), "[999999999,1]");
        due("20 one of them", bench.change(0, "[1]", '*', 999), 1);
        due("20 the other", bench.change(0, "[0]", '*', -1), 1);
        fails("20 too many digits", ARITHMETIC, () -> bench.change(0, "*", '+', -1));
        due("20 fault", bench.change(0, "*x", '+', 1), -2);
        fails("20 change", INDEX, () -> bench.mill.change(7, 4, 'x', 0));
        fails("20 change", NONE, () -> bench.mill.change(7, 0, 'x', 0));
        fails("20 change", ARGUMENT, () -> bench.change(0, "x", 'x', 0));
        fails("20 change", ARGUMENT, () -> bench.change(0, "x", '+', 1000));
        fails("20 change", ARGUMENT, () -> bench.change(0, "x", '*', -1000));
        fails("20 change", ARGUMENT, () -> bench.change(0, "x", 'c', 5));
        fails("20 change", ARGUMENT, () -> bench.change(0, "x", 'c', -1));
    }

    // Promises 21 and 22

    private static void columns() {
        Bench bench = with("[{\"b\":1,\"a\":[2]},{},{\"c\":null,\"b\":3}]");
        due("21 columns", bench.mill.columns(0, 7), 3);
        due("21 columns", bench.write(7, 'b'), "{\"b\":[1,null,3],\"a\":[[2],null,null],\"c\":[null,null,null]}");
        due("21 onto itself", bench.mill.columns(0, 0), 3);
        due("21 onto itself", bench.mill.areSame(0, 7), true);
        fails("21 columns", UNSUPPORTED, () -> bench.mill.columns(0, 1));
        bench.read("[{},1]", 'b', 1);
        fails("21 columns", UNSUPPORTED, () -> bench.mill.columns(1, 0));
        fails("21 columns", INDEX, () -> bench.mill.columns(5, 8));
        fails("21 columns", INDEX, () -> bench.mill.columns(1, -1));
        fails("21 columns", NONE, () -> bench.mill.columns(5, 1));
        bench.read("[{},{}]", 'b', 1);
        due("21 without keys", bench.mill.columns(1, 2), 0);
        due("21 without keys", bench.write(2, 'b'), "{}");
        String eight = "[{\"a\":1,\"b\":1,\"c\":1,\"d\":1,\"e\":1,\"f\":1,\"g\":1,\"h\":1}";
        bench.read(eight + ",{}".repeat(22) + "]", 'b', 3);
        due("21 193 values", bench.mill.columns(3, 4), 8);
        bench.read(eight + ",{}".repeat(23) + "]", 'b', 3);
        fails("21 too many by nothing", UNSUPPORTED, () -> bench.mill.columns(3, 4));
        StringBuilder many = new StringBuilder("[{\"a\":1}");
        for (int i = 1; i < 13; i++) {
            many.append(",{\"").append((char) ('a' + i)).append("\":1}");
        }
        bench.read(many + "]", 'b', 3);
        due("21 183 values", bench.mill.columns(3, 4), 13);
        due("21 183 values", bench.mill.values(4), 183);
        bench.read(many + ",{\"z\":1}]", 'b', 3);
        fails("21 too many", UNSUPPORTED, () -> bench.mill.columns(3, 4));
        due("21 as it was", bench.mill.values(4), 183);
    }

    private static void rows() {
        Bench bench = with("{\"b\":[1,null,3],\"a\":[[2],null,null]}");
        due("22 rows", bench.mill.rows(0, 1), 3);
        due("22 rows", bench.write(1, 'b'), "[{\"b\":1,\"a\":[2]},{},{\"b\":3}]");
        due("22 onto itself", bench.mill.rows(0, 0), 3);
        due("22 onto itself", bench.mill.areSame(0, 1), true);
        fails("22 rows", UNSUPPORTED, () -> bench.mill.rows(1, 2));
        bench.read("{\"a\":[1],\"b\":[1,2]}", 'b', 2);
        fails("22 not of the same length", UNSUPPORTED, () -> bench.mill.rows(2, 3));
        bench.read("{\"a\":[1],\"b\":1}", 'b', 2);
        fails("22 no rows", UNSUPPORTED, () -> bench.mill.rows(2, 3));
        fails("22 rows", INDEX, () -> bench.mill.rows(5, 8));
        fails("22 rows", NONE, () -> bench.mill.rows(5, 0));
        bench.read("{}", 'b', 2);
        due("22 without keys", bench.mill.rows(2, 3), 0);
        due("22 without keys", bench.write(3, 'b'), "[]");
        bench.read("{\"a\":[],\"b\":[]}", 'b', 2);
        due("22 without maps", bench.mill.rows(2, 2), 0);
        due("22 without maps", bench.write(2, 'b'), "[]");
        bench.read("{\"a\":[" + "1,".repeat(98) + "1]}", 'b', 4);
        due("22 199 values", bench.mill.rows(4, 5), 99);
        due("22 199 values", bench.mill.values(5), 199);
        bench.read("{\"a\":[" + "1,".repeat(99) + "1]}", 'b', 4);
        fails("22 too many", UNSUPPORTED, () -> bench.mill.rows(4, 5));
    }

    // Promises 23 to 25

    private static void differ(String one, String other, int places) {
        Bench bench = with(one, other);
        due("23 " + one + " and " + other, bench.mill.differences(0, 1), places);
        due("23 " + other + " and " + one, bench.mill.differences(1, 0), places);
        due("25 " + one + " and " + other, bench.mill.areSame(0, 1), places == 0);
    }

    private static void differences() {
        differ("1", "1.00", 0);
        differ("-0", "0.0", 0);
        differ("-1", "1", 1);
        differ("1", "\"1\"", 1);
        differ("\"a\"", "\"b\"", 1);
        differ("null", "false", 1);
        differ("true", "false", 1);
        differ("[]", "{}", 1);
        differ("[1,2,3]", "[1,2]", 1);
        differ("[1,2,3]", "[2,2,4]", 2);
        differ("{\"a\":1,\"b\":[1,{}]}", "{\"b\":[1.0,{}],\"a\":1}", 0);
        differ("{\"a\":1,\"b\":2,\"c\":[1,2]}", "{\"c\":[3,4],\"b\":2,\"d\":1,\"e\":1}", 5);
        differ("[[1,2],[3]]", "[[1],[4]]", 2);
        differ("{}", "{\"a\":[1,2]}", 1);
        differ("[[[[[[[1,2]]]]]]]", "[[[[[[[3,4]]]]]]]", 2);
        Bench bench = with("1");
        due("23 itself", bench.mill.differences(0, 0), 0);
        due("25 itself", bench.mill.areSame(0, 0), true);
        fails("23 differences", NONE, () -> bench.mill.differences(0, 1));
        fails("23 differences", NONE, () -> bench.mill.differences(1, 0));
        fails("25 areSame", NONE, () -> bench.mill.areSame(0, 8));
        fails("25 areSame", NONE, () -> bench.mill.areSame(-1, 0));
    }

    private static void merges(String from, String first, String second, int conflicts, String result) {
        Bench bench = with(from, first, second);
        String what = "24 merge " + from + " " + first + " " + second;
        due(what, bench.mill.merge(0, 1, 2, 3), conflicts);
        due(what, bench.write(3, 'b'), result);
        due(what, bench.mill.merge(0, 1, 2, 2), conflicts);
        due(what, bench.write(2, 'b'), result);
    }

    private static void merge() {
        merges("1", "1.0", "2", 0, "2");
        merges("1", "2", "1.0", 0, "2");
        merges("1", "2.0", "2", 0, "2.0");
        merges("1", "1.0", "1.00", 0, "1.0");
        merges("1", "2", "3", 1, "2");
        merges("[1,2]", "[1,3]", "[4,2]", 1, "[1,3]");
        merges("{}", "{\"a\":1,\"b\":2}", "{\"c\":3,\"a\":1.0}", 0, "{\"a\":1,\"b\":2,\"c\":3}");
        merges("{\"a\":1,\"b\":2,\"c\":3}", "{\"c\":3,\"a\":1}", "{\"b\":2,\"c\":4}", 0, "{\"c\":4}");
        merges("{\"a\":1}", "{}", "{\"a\":2}", 1, "{}");
        merges("{\"a\":1}", "{\"a\":2}", "{}", 1, "{\"a\":2}");
        merges("{\"a\":1,\"b\":0}", "{\"b\":0}", "{\"b\":1}", 0, "{\"b\":1}");
        merges("{\"x\":{\"a\":1,\"b\":2}}", "{\"x\":{\"a\":9,\"b\":2}}", "{\"y\":5,\"x\":{\"a\":8,\"b\":7,\"c\":6}}", 1,
            "{\"x\":{\"a\":9,\"b\":7,\"c\":6},\"y\":5}");
        merges("1", "{\"a\":1}", "{\"b\":1}", 1, "{\"a\":1}");
        merges("{}", "{\"x\":{\"a\":1}}", "{\"x\":{\"b\":1}}", 1, "{\"x\":{\"a\":1}}");
        merges("{\"x\":null}", "{\"x\":1}", "{}", 1, "{\"x\":1}");
        String deep = "{\"a\":".repeat(7);
        String ends = "}".repeat(7);
        merges(deep + "1" + ends, deep + "2" + ends, deep + "3,\"b\":4" + ends, 1, deep + "2,\"b\":4" + ends);
    }

    private static void mergeTooMuch() {
        Bench bench = with("{}", "{\"a\":[" + "1,".repeat(99) + "1]}", "{\"b\":[" + "1,".repeat(95) + "1]}", "7");
        due("24 199 values", bench.mill.merge(0, 1, 2, 4), 0);
        due("24 199 values", bench.mill.values(4), 199);
        bench.read("{\"b\":[" + "1,".repeat(97) + "1]}", 'b', 2);
        fails("24 too many", UNSUPPORTED, () -> bench.mill.merge(0, 1, 2, 3));
        due("24 as it was", bench.write(3, 'b'), "7");
        fails("24 merge", INDEX, () -> bench.mill.merge(7, 1, 2, 8));
        fails("24 merge", INDEX, () -> bench.mill.merge(0, 1, 2, -1));
        fails("24 merge", NONE, () -> bench.mill.merge(7, 1, 2, 0));
        fails("24 merge", NONE, () -> bench.mill.merge(0, 7, 2, 0));
        fails("24 merge", NONE, () -> bench.mill.merge(0, 1, 7, 0));
    }

    // Promises 26 to 28

    private static void figures() {
        Bench bench = with("5", "[]", "{\"a\":[1,{\"b\":2}],\"c\":3}",
            "[0.1,0.5,16777216,16777217,33554434,33554436,-0.0,\"0.1\",0.0001,2.50,999999999,0.3125]");
        due("26 values", bench.mill.values(0), 1);
        due("26 values", bench.mill.values(1), 1);
        due("26 values", bench.mill.values(2), 6);
        due("27 depth", bench.mill.depth(0), 1);
        due("27 depth", bench.mill.depth(1), 1);
        due("27 depth", bench.mill.depth(2), 4);
        due("28 lost", bench.mill.lost(2), 0);
        due("28 lost", bench.mill.lost(3), 5);
        due("28 lost", with("0.1").mill.lost(0), 1);
        for (int document : new int[] {-1, 4, 8}) {
            fails("26 values", NONE, () -> bench.mill.values(document));
            fails("27 depth", NONE, () -> bench.mill.depth(document));
            fails("28 lost", NONE, () -> bench.mill.lost(document));
            fails("29 sum", NONE, () -> bench.mill.sum(document));
        }
    }

    // Promise 29

    private static long sumOf(String text) {
        long sum = 7;
        for (int i = 0; i < text.length(); i++) {
            sum = 31 * sum + text.charAt(i);
        }
        return sum;
    }

    private static void sum() {
        Bench bench = with("{\"b\":[2.50,-0.0,10,3.00,-1.20],\"a\":{\"d\":\"\\n\",\"c\":100.0}}");
        due("29 sum", bench.mill.sum(0), sumOf("{\"a\":{\"c\":100,\"d\":\"\\n\"},\"b\":[2.5,0,10,3,-1.2]}"));
        bench.read("{\"a\":{\"c\":100,\"d\":\"\\n\"},\"b\":[2.5,0.000,10.0,3,-1.2]}", 'b', 1);
        due("29 sum", bench.mill.sum(1), bench.mill.sum(0));
        bench.mill.set('b', 's', 1);
        due("29 sum", bench.mill.sum(1), bench.mill.sum(0));
        bench.lay(0, "as it was");
        bench.mill.sum(0);
        due("29 changes nothing", bench.tape(0), "as it was");
    }

    // Promises 30 and 31

    private static void shares() {
        Bench bench = new Bench();
        fails("30 heldShare", ARITHMETIC, () -> bench.mill.heldShare());
        fails("31 meanDepth", ARITHMETIC, () -> bench.mill.meanDepth());
        bench.read("[1,{\"a\":2}]", 'b', 3);
        due("30 heldShare", bench.mill.heldShare(), 0.5f);
        due("31 meanDepth", bench.mill.meanDepth(), 3.0);
        bench.read("[[]]", 'b', 7);
        bench.read("1", 'b', 0);
        due("30 heldShare", bench.mill.heldShare(), 4f / 7f);
        due("31 meanDepth", bench.mill.meanDepth(), 2.0);
        bench.read("[[1]]", 'b', 0);
        due("31 meanDepth", bench.mill.meanDepth(), 8.0 / 3.0);
    }

    // Promise 32

    private static void isSound() {
        Bench bench = new Bench();
        due("32 without documents", bench.mill.isSound(), true);
        bench.read("[[[[[[[[]]]]]]]]", 'b', 0);
        bench.read("{\"a\":[null,true,false,-1.50,-0.0,{}],\"\\\"\\\\\\n\":[[]],\"#\":\"#\"}", 'b', 1);
        bench.read("[" + "1,".repeat(98) + "{}]", 'b', 2);
        bench.put(2, "[98]", "x", 2);
        due("26 values", bench.mill.values(2), 200);
        for (String setting : new String[] {"bc1", "be1", "bs1", "bt2", "pc1", "ps1", "pt1", "ls1"}) {
            bench.mill.set(setting.charAt(0), setting.charAt(1), setting.charAt(2) - '0');
            due("32 isSound", bench.mill.isSound(), true);
        }
        bench.mill.begin('b');
        bench.lay(0, "[1");
        bench.mill.piece(0);
        bench.lay(0, "as it was");
        due("32 isSound", bench.mill.isSound(), true);
        due("32 changes nothing", bench.tape(0), "as it was");
        bench.lay(0, ",2]");
        due("32 changes nothing", bench.mill.piece(0), -1);
        due("32 changes nothing", bench.mill.finish(3), 3);
    }
}
