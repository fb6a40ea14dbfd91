/** The sentences of "Terms", one test for each, at the edges that it names. */
final class TermsEdges {
    private static final String DIGITS = "123456789";
    private static final String TEN = "0123456789";
    private static final String NINE = "123456789";
    private static final String LETTERS = "abcdefghijklmnopqrst";
    private static final String PRINTED = printed();

    private TermsEdges() {
    }

    static void all() {
        sameCore();
        kindsOfValues();
        digitsOfNumbers();
        notationOfNumbers();
        numbersBelowOne();
        textsUpToTwentyBytes();
        bytesOfTexts();
        depthOfValues();
        depthAtMostEight();
        valuesAtMostTwoHundred();
        sameValues();
        writtenNumbers();
        writtenTexts();
        blanks();
        comments();
        braces();
        blanksInBraces();
        lastComma();
        parens();
        blanksInParens();
        tightParens();
        namesFromTheEndOn();
        namesGiven();
        lines();
        lineLeaves();
        lastByteOfLines();
        noBlanksInLines();
        twins();
        twinsInLines();
        faults();
        endsTooEarly();
        nextBytes();
        faultOfKeysAndNames();
        faultOfTooDeep();
        faultOfTooMany();
        leftOutCount();
        writing();
        risingKeys();
        pathSteps();
        pathIndexes();
        pathOrder();
    }

    private static String printed() {
        StringBuilder bytes = new StringBuilder();
        for (char value = 32; value <= 126; value++) {
            bytes.append(value);
        }
        return bytes.toString();
    }

    private static void says(String words) {
        Doc.says(0, words);
    }

    private static void due(String what, Object got, Object due) {
        Bench.due(Doc.told() + what, got, due);
    }

    private static String inDialect(char dialect, String plain) {
        return dialect == 'l' ? "=" + plain + "\n" : plain;
    }

    private static int ahead(char dialect) {
        return dialect == 'l' ? 1 : 0;
    }

    // ---- what it is about, and the core

    private static void sameCore() {
        says("Texts, settings, pieces and edits come by calls; values, places, sums and losses are asked. What is written "
            + "and read again is the same core, and a text read in pieces is the same as all at once.");
        Bench bench = new Bench();
        String text = "{\"b\":[null,true,-0.50,-0],\"a\":{\"\":\"\\n\\\"\\\\\"},\"c\":[[],{}]}";
        bench.read(text, 'b', 0);
        for (char dialect : "bpl".toCharArray()) {
            String written = bench.write(0, dialect);
            for (int cut = 0; cut <= written.length(); cut += 7) {
                Bench again = new Bench();
                again.mill.begin(dialect);
                again.lay(0, written.substring(0, cut));
                due("a piece", again.mill.piece(0), -1);
                again.lay(0, written.substring(cut));
                due("a piece", again.mill.piece(0), -1);
                due("values", again.mill.finish(0), 11);
                due("read again from " + dialect, again.write(0, 'b'), text);
            }
        }
    }

    private static void kindsOfValues() {
        says("Core. A value is nothing, a truth, a number, a text, a row of values, or a map of values by keys, which are "
            + "texts, in the order in which they came.");
        Reads.to("", 'b', "[null,true,false,0,\"\",[0],{\"\":0}]", "[null,true,false,0,\"\",[0],{\"\":0}]");
        Reads.to("", 'b', "{\"b\":1,\"a\":2,\"\":3,\"B\":4}", "{\"b\":1,\"a\":2,\"\":3,\"B\":4}");
        Reads.to("", 'p', "(:\"b\"1\"a\"2\"\"3)", "{\"b\":1,\"a\":2,\"\":3}");
        Reads.to("", 'l', ".\"b\"=1\n.\"a\"=2\n.\"\"=3\n", "{\"b\":1,\"a\":2,\"\":3}");
        for (String key : new String[] {"1", "null", "[]", "{}", "a"}) {
            Reads.fault("", 'b', "{" + key + ":1}", 1);
        }
    }

    private static void digitsOfNumbers() {
        says("A number has up to 9 digits behind a sign, of which 0 to 4 stand behind a point;");
        for (int ahead = 1; ahead <= 10; ahead++) {
            for (int behind = 0; behind <= 5; behind++) {
                numberWith(ahead, behind, "");
                numberWith(ahead, behind, "-");
            }
        }
    }

    private static void numberWith(int ahead, int behind, String sign) {
        String number = sign + "1234567890".substring(0, ahead) + (behind > 0 ? "." + "54321".substring(0, behind) : "");
        for (char dialect : "bpl".toCharArray()) {
            if (ahead + behind <= 9 && behind <= 4) {
                Reads.to("", dialect, inDialect(dialect, number), number);
            } else {
                // Behind nine digits no point can stand, as a digit would have to follow it.
                int place = ahead >= 9 ? 9 : ahead + 1 + Math.min(4, 9 - ahead);
                Reads.fault("", dialect, inDialect(dialect, number), ahead(dialect) + sign.length() + place);
            }
        }
    }

    private static void notationOfNumbers() {
        says("how many, and whether there is a - at 0, is its notation;");
        for (String number : new String[] {"0", "0.0", "0.00", "0.000", "0.0000", "-0", "-0.0", "-0.00", "-0.000",
            "-0.0000"}) {
            for (char dialect : "bpl".toCharArray()) {
                Reads.to("", dialect, inDialect(dialect, number), number);
            }
            Bench bench = new Bench();
            bench.read(number, 'b', 0);
            bench.read("0", 'b', 1);
            due(number + " is the same as 0", bench.mill.areSame(0, 1), true);
        }
    }

    private static void numbersBelowOne() {
        says("a number below 1 has one 0 ahead of the point.");
        for (char dialect : "bpl".toCharArray()) {
            int place = ahead(dialect);
            for (String number : new String[] {"0.5", "-0.5", "0.0001", "-0.9999"}) {
                Reads.to("", dialect, inDialect(dialect, number), number);
            }
            Reads.fault("", dialect, inDialect(dialect, ".5"), place);
            Reads.fault("", dialect, inDialect(dialect, "-.5"), place + 1);
            Reads.fault("", dialect, inDialect(dialect, "00.5"), place + 1);
            Reads.fault("", dialect, inDialect(dialect, "-00.5"), place + 2);
            Reads.fault("", dialect, inDialect(dialect, "01"), place + 1);
        }
        Bench bench = new Bench();
        bench.read("[1.0005,-1.05,10.5]", 'b', 0);
        due("change", bench.change(0, "*", '*', 1), 0);
        due("change", bench.change(0, "[0]", '+', -999), 1);
        due("change", bench.change(0, "[1]", '+', 104), 1);
        due("change", bench.change(0, "[2]", '+', -105), 1);
        due("below 1", bench.write(0, 'b'), "[0.9006,-0.01,0.0]");
    }

    private static void textsUpToTwentyBytes() {
        says("A text has up to 20 bytes,");
        for (int many = 0; many <= 22; many++) {
            textWith("x".repeat(many), many, 20);
            textWith("\\n".repeat(many), many, 40);
            textWith("\\\"".repeat(many), many, 40);
            textWith("\\\\".repeat(many), many, 40);
        }
    }

    private static void textWith(String inside, int many, int place) {
        String text = "\"" + inside + "\"";
        read('b', text, text, many, 1 + place);
        read('p', text, text, many, 1 + place);
        read('l', "=" + text, text, many, 2 + place);
        read('b', "{" + text + ":0}", "{" + text + ":0}", many, 2 + place);
        read('p', "(:" + text + " 0)", "{" + text + ":0}", many, 3 + place);
        read('l', "." + text + "=0\n", "{" + text + ":0}", many, 2 + place);
    }

    private static void read(char dialect, String text, String braces, int many, int place) {
        if (many <= 20) {
            Reads.to("", dialect, text, braces);
        } else {
            Reads.fault("", dialect, text, place);
        }
    }

    private static void bytesOfTexts() {
        says("each 10 or from 32 to 126.");
        String allowed = PRINTED;
        Reads.next("", 'b', "\"a", allowed);
        Reads.next("", 'b', "{\"a", allowed);
        Reads.next("", 'p', "\"a", allowed);
        Reads.next("", 'p', "(:\"a", allowed);
        Reads.next("", 'l', "=\"a", allowed);
        Reads.next("", 'l', ".\"a", allowed);
        for (int i = 0; i < PRINTED.length(); i++) {
            char value = PRINTED.charAt(i);
            String text = "\"" + (value == '"' || value == '\\' ? "\\" : "") + value + "\"";
            Reads.to("", 'b', text, text);
        }
        Reads.to("", 'b', "\"\\n\"", "\"\\n\"");
    }

    private static void depthOfValues() {
        says("The depth of a value is 1, and of a row or a map with something in it 1 more than that of its deepest value;");
        String[] texts = {"null", "\"\"", "[]", "{}", "[0]", "{\"a\":0}", "[[]]", "[0,[0],0]", "{\"a\":[{}],\"b\":0}",
            "[[[0]],[[[0]]],[0]]"};
        int[] depths = {1, 1, 1, 1, 2, 2, 2, 3, 3, 5};
        for (int i = 0; i < texts.length; i++) {
            Bench bench = new Bench();
            bench.read(texts[i], 'b', 0);
            due(texts[i], bench.mill.depth(0), depths[i]);
        }
    }

    private static void depthAtMostEight() {
        says("it is at most 8.");
        for (int rows = 0; rows <= 9; rows++) {
            for (String inside : new String[] {"null", "true", "false", "-1", "\"\"", "[]", "{}"}) {
                deep("[".repeat(rows) + inside + "]".repeat(rows), rows + 1);
                deep("{\"k\":".repeat(rows) + inside + "}".repeat(rows), rows + 1);
            }
        }
        Bench bench = new Bench();
        bench.read("[[[[[[[[]]]]]]]]", 'b', 0);
        bench.read("[]", 'b', 1);
        due("replace", bench.replace(1, "", 0), 1);
        due("depth", bench.mill.depth(1), 8);
    }

    private static void deep(String text, int depth) {
        if (depth <= 8) {
            Bench bench = new Bench();
            due(text, bench.read(text, 'b', 0) > 0, true);
            due(text, bench.mill.depth(0), depth);
        } else {
            // A row or map at level 9 is told by its own first byte, whatever is in it.
            Reads.fault("", 'b', text, text.startsWith("[") ? 8 : 40);
        }
    }

    private static void valuesAtMostTwoHundred() {
        says("A value has itself and all in it as its values, at most 200.");
        Reads.count("", 'b', "0", 1);
        Reads.count("", 'b', "[]", 1);
        Reads.count("", 'b', "{\"a\":[0,{\"b\":0}],\"c\":0}", 6);
        Reads.count("", 'b', "[" + "0,".repeat(197) + "0]", 199);
        Reads.count("", 'b', "[" + "0,".repeat(198) + "0]", 200);
        Reads.fault("", 'b', "[" + "0,".repeat(199) + "0]", 399);
        Reads.count("", 'p', "(" + "()".repeat(199) + ")", 200);
        Reads.fault("", 'p', "(" + "()".repeat(200) + ")", 399);
        Reads.count("", 'p', "(" + "(n)".repeat(99) + "n)", 200);
        Reads.fault("", 'p', "(" + "(n)".repeat(99) + "(n))", 299);
        Reads.fault("", 'p', "(" + "(n)".repeat(100) + ")", 299);
    }

    private static void sameValues() {
        says("Two values are the same if they are of the same kind, and the same truth, number whatever its notation, or "
            + "text, or rows of the same values in the same order, or maps with the same keys, in any order, and the same "
            + "values for them.");
        String[] values = {"null", "true", "false", "0", "1", "-1", "10", "1.5", "-1.5", "999999999", "99999.9999", "\"\"",
            "\"0\"", "\"null\"", "\"a\"", "\"b\"", "\"ab\"", "[]", "{}", "[null]", "[0]", "[[]]", "[0,1]", "[1,0]", "[0,0]",
            "{\"a\":0}", "{\"b\":0}", "{\"a\":1}", "{\"a\":0,\"b\":1}", "{\"a\":1,\"b\":0}", "[{\"a\":0}]"};
        for (int i = 0; i < values.length; i++) {
            for (int j = 0; j < values.length; j++) {
                same(values[i], values[j], i == j);
            }
        }
        same("0", "-0.0000", true);
        same("1.5", "1.5000", true);
        same("-20", "-20.00", true);
        same("1.5", "15", false);
        same("99999.9999", "99999.9998", false);
        same("{\"a\":0,\"b\":[1.0]}", "{\"b\":[1],\"a\":-0}", true);
        same("[{\"a\":0,\"b\":1},2]", "[{\"b\":1,\"a\":0},2]", true);
        same("{\"a\":0,\"b\":1}", "{\"a\":0,\"b\":1,\"c\":2}", false);
    }

    private static void same(String one, String other, boolean due) {
        Bench bench = new Bench();
        bench.read(one, 'b', 0);
        bench.read(other, 'b', 1);
        due(one + " and " + other, bench.mill.areSame(0, 1), due);
        due(one + " and " + other, bench.mill.differences(0, 1) == 0, due);
        due(one + " and " + other, bench.mill.sum(0) == bench.mill.sum(1), due);
    }

    // ---- what the dialects share

    private static void writtenNumbers() {
        says("Common. A number is written as it stands: - if it is less than 0, or its notation says so, digits without "
            + "zeros ahead, 0 for none, and a point with the digits behind it.");
        Bench bench = new Bench();
        String text = "[0,-0,0.0,-0.00,5,-5,10,0.05,-0.05,0.50,100.0,-999999999,99999.9999,0.0001,-0.0000]";
        bench.read(text, 'b', 0);
        due("b", bench.write(0, 'b'), text);
        due("p", bench.write(0, 'p'), text.replace('[', '(').replace(']', ')').replace(',', ' '));
        due("l", bench.write(0, 'l').replaceAll("\n?\\[[0-9]*\\]=", ","), text.replace('[', ',').replace(']', '\n'));
        due("to 0", bench.change(0, "*", '*', 0), 13);
        due("0 for none", bench.write(0, 'b'), "[0,0,0.0,0.00,0,0,0,0.00,0.00,0.00,0.0,0,0.0000,0.0000,0.0000]");
    }

    private static void writtenTexts() {
        says("A text is written between two \", with \\ ahead of each \" and \\, and \\n for the byte 10, which does not stand "
            + "there itself.");
        String text = "{\"\\\"\\\\\\n\":\"\\n\\\\\\\"n\"}";
        for (char dialect : "bp".toCharArray()) {
            String written = dialect == 'b' ? text : "(:\"\\\"\\\\\\n\" \"\\n\\\\\\\"n\")";
            Reads.to("", dialect, written, text);
            Bench bench = new Bench();
            bench.read(text, 'b', 0);
            due("written", bench.write(0, dialect), written);
        }
        for (String beginning : new String[] {"\"a\\", "{\"a\\"}) {
            Reads.next("", 'b', beginning, "\"\\n");
        }
        Reads.next("", 'p', "(:\"a\\", "\"\\n");
        Reads.next("", 'l', ".\"a\\", "\"\\n");
        Reads.next("", 'l', "=\"a\\", "\"\\n");
        Reads.fault("", 'b', "\"a\nb\"", 2);
        Reads.fault("", 'l', "=\"a\nb\"", 3);
    }

    private static void blanks() {
        says("Blanks are the bytes 32 and 10;");
        Reads.next("", 'b', "[1]", " \n");
        Reads.next("", 'p', "(1)", " \n");
        Reads.next("", 'b', "[", " \n[]{ntf\"-" + TEN);
        Reads.next("", 'p', "(", " \n(:)nyf\"-&*" + TEN);
        Reads.next("", 'b', "", " \n[{ntf\"-" + TEN);
        Reads.next("", 'p', "", " \n(nyf\"-&*" + TEN);
        Reads.to("", 'b', " \n \n\n[ \n ] \n", "[]");
    }

    private static void comments() {
        says("comments, if they are on in the dialect, go from # up to the next byte 10 or the end, and count as blanks.");
        for (char dialect : "bp".toCharArray()) {
            String on = dialect + "c1";
            String other = dialect == 'b' ? "pc1" : "bc1";
            String row = dialect == 'b' ? "[1,2]" : "(1 2)";
            Reads.next(on, dialect, "\"a\"", " \n#");
            Reads.next(other, dialect, "\"a\"", " \n");
            Reads.to(on, dialect, row + "#", "[1,2]");
            Reads.to(on, dialect, row + "#\n", "[1,2]");
            Reads.to(on, dialect, "#]#\"\\\n" + row + "##x", "[1,2]");
            Reads.fault(on, dialect, row + "#\n2", 7);
            Reads.fault(on, dialect, "#" + row, 6);
            Reads.fault(other, dialect, "#\n" + row, 0);
            StringBuilder all = new StringBuilder("#");
            for (char value = 0; value < 256; value += value == 9 ? 2 : 1) {
                all.append(value);
            }
            Reads.to(on, dialect, all.substring(0, 200) + "\n1", "1");
            Reads.to(on, dialect, "1#" + all.substring(200), "1");
            Reads.to(on, dialect, "\"#\"", "\"#\"");
        }
        Reads.to("pc1", 'p', "(1#\n2)", "[1,2]");
        Reads.fault("pc1", 'p', "(1#2)", 5);
        Reads.fault("bc1 pc1", 'l', "=1#\n", 2);
    }

    // ---- braces

    private static void braces() {
        says("Dialects. 'b', braces: a value is null, true, false, a number, a text, a row as [ and ] with its values parted "
            + "by , between, or a map as { and } with its pairs parted by , between, each a text, : and the value.");
        for (String text : new String[] {"null", "true", "false", "-7.25", "\"x\"", "[]", "{}", "[1]", "[1,2]", "{\"a\":1}",
            "{\"a\":1,\"b\":[{\"c\":{}}]}"}) {
            Reads.to("", 'b', text, text);
        }
        for (String word : new String[] {"null", "true", "false"}) {
            for (int i = 0; i < word.length(); i++) {
                Reads.fault("", 'b', word.substring(0, i) + "x", i);
            }
            Reads.fault("", 'b', word + word, word.length());
        }
        Reads.fault("", 'b', "[1}", 2);
        Reads.fault("", 'b', "{\"a\":1]", 6);
        Reads.fault("", 'b', "[,1]", 1);
        Reads.fault("", 'b', "[1,,2]", 3);
        Reads.fault("", 'b', "{,\"a\":1}", 1);
        Reads.fault("", 'b', "{\"a\":1,,\"b\":2}", 7);
        Reads.fault("", 'b', "{\"a\"::1}", 5);
        Reads.fault("", 'b', "{\"a\",1}", 4);
        Reads.fault("", 'b', "[1:2]", 2);
        Reads.fault("", 'b', "[1 2]", 3);
        Reads.fault("", 'b', "{\"a\":1 \"b\":2}", 7);
        Reads.fault("", 'b', "1,2", 1);
    }

    private static void blanksInBraces() {
        says("Blanks can stand between all of these, and at both ends.");
        String[] parts = {"", "[", "{", "\"a\"", ":", "null", ",", "\"b\"", ":", "-1.5", "}", ",", "\"c\"", ",", "{", "}", ",",
            "[", "]", "]", ""};
        String whole = String.join("", parts);
        for (String blank : new String[] {" ", "\n", " \n "}) {
            Reads.to("", 'b', String.join(blank, parts), whole);
        }
        Reads.to("bc1", 'b', String.join("#,]\n", parts), whole);
        for (String apart : new String[] {"nu ll", "t rue", "fals e", "- 1", "1 2", "1 .5", "1. 5"}) {
            Reads.fault("", 'b', "[" + apart + "]", apart.startsWith("1 ") ? 3 : 1 + apart.indexOf(' '));
        }
    }

    private static void lastComma() {
        says("If it is on, one , can stand behind the last value or pair of a row or map that has one.");
        Reads.to("be1", 'b', "[1,]", "[1]");
        Reads.to("be1", 'b', "[1 , ]", "[1]");
        Reads.to("be1", 'b', "[1,2,]", "[1,2]");
        Reads.to("be1", 'b', "{\"a\":1,}", "{\"a\":1}");
        Reads.to("be1", 'b', "{\"a\":[1,],\"b\":{\"c\":2,},}", "{\"a\":[1],\"b\":{\"c\":2}}");
        Reads.to("be1", 'b', "[1]", "[1]");
        Reads.fault("be1", 'b', "[1,,]", 3);
        Reads.fault("be1", 'b', "{\"a\":1,,}", 7);
        Reads.fault("be1", 'b', "[,]", 1);
        Reads.fault("be1", 'b', "{,}", 1);
        Reads.fault("be1", 'b', "[1,]]", 4);
        Reads.fault("be1", 'b', "[1,}", 3);
        Reads.fault("be1", 'b', "1,", 1);
        Reads.fault("", 'b', "[1,]", 3);
        Reads.fault("", 'b', "[1 , ]", 5);
        Reads.fault("", 'b', "{\"a\":1,}", 7);
        Reads.count("be1", 'b', "[" + "0,".repeat(199) + "]", 200);
        Reads.fault("be1", 'b', "[" + "0,".repeat(200) + "]", 399);
    }

    // ---- parens

    private static void parens() {
        says("'p', parens: a value is n for nothing, y and f for the truths, a number, a text, a row as ( and ) with its "
            + "values between, or a map as (: and ) with a text and a value again and again between.");
        String[] parens = {"n", "y", "f", "-7.25", "\"x\"", "()", "(:)", "(1)", "(1 2)", "(:\"a\"1)", "(:\"a\"(:\"b\"(:))\"c\"n)",
            "(()(:)\"\"())"};
        String[] braces = {"null", "true", "false", "-7.25", "\"x\"", "[]", "{}", "[1]", "[1,2]", "{\"a\":1}",
            "{\"a\":{\"b\":{}},\"c\":null}", "[[],{},\"\",[]]"};
        for (int i = 0; i < parens.length; i++) {
            Reads.to("", 'p', parens[i], braces[i]);
        }
        for (String wrong : new String[] {"null", "nn", "yy", "ff", "true", "t", "[", "{", ",", ":", ")", "N"}) {
            boolean begins = "nyf".indexOf(wrong.charAt(0)) >= 0;
            Reads.fault("", 'p', wrong, begins ? 1 : 0);
        }
        Reads.fault("", 'p', "(:1 2)", 2);
        Reads.fault("", 'p', "(:n 2)", 2);
        Reads.fault("", 'p', "(:() 2)", 2);
        Reads.fault("", 'p', "(:\"a\":1)", 5);
        Reads.fault("", 'p', "(:\"a\")", 5);
        Reads.fault("", 'p', "(:\"a\"1\"b\")", 9);
        Reads.fault("", 'p', "(:\"a\"1 2)", 7);
        Reads.fault("", 'p', "(::)", 2);
        Reads.fault("", 'p', "(1,2)", 2);
        Reads.fault("", 'p', "(\"a\":1)", 4);
    }

    private static void blanksInParens() {
        says("Blanks can stand as in 'b', but not between ( and :,");
        String[] parts = {"", "(", "(:", "\"a\"", "n", "\"b\"", "-1.5", ")", "y", "&1", "&2", "5", "*1", "()", "(:", ")", ")",
            ""};
        for (String blank : new String[] {" ", "\n", " \n "}) {
            Reads.to("", 'p', String.join(blank, parts), "[{\"a\":null,\"b\":-1.5},true,5,5,[],{}]");
        }
        Reads.to("pc1", 'p', String.join("#)\n", parts), "[{\"a\":null,\"b\":-1.5},true,5,5,[],{}]");
        Reads.fault("", 'p', "( :)", 2);
        Reads.fault("", 'p', "(\n:)", 2);
        Reads.fault("pc1", 'p', "(#\n:)", 3);
        Reads.fault("", 'p', "(1 :)", 3);
    }

    private static void tightParens() {
        says("and one at least stands between two of n, y, f and numbers, if nothing else does.");
        String[] values = {"n", "y", "f", "-1", "-2.5", "\"x\"", "(3)", "(:)", "*1", "&2 8", "&2\"w\""};
        String[] braces = {"null", "true", "false", "-1", "-2.5", "\"x\"", "[3]", "{}", "7", "8", "\"w\""};
        for (int i = 0; i < values.length; i++) {
            for (int j = 0; j < values.length; j++) {
                boolean tight = i < 5 && j < 5;
                String both = "[7," + braces[i] + "," + braces[j] + "]";
                if (tight) {
                    Reads.fault("", 'p', "(&1 7 " + values[i] + values[j] + ")", 6 + values[i].length());
                } else if (i != 9 || j >= 5) {
                    Reads.to("", 'p', "(&1 7 " + values[i] + values[j] + ")", both);
                }
                Reads.to("", 'p', "(&1 7 " + values[i] + " " + values[j] + ")", both);
                Reads.to("", 'p', "(&1 7 " + values[i] + "\n" + values[j] + ")", both);
                Reads.to("pc1", 'p', "(&1 7 " + values[i] + "#\n" + values[j] + ")", both);
            }
        }
        Reads.to("", 'p', "(:\"a\"n\"b\"1)", "{\"a\":null,\"b\":1}");
        Reads.to("", 'p', "(:\"a\"&3n\"b\"*3)", "{\"a\":null,\"b\":null}");
        for (String digit : TEN.split("")) {
            Reads.fault("", 'p', "(n" + digit + ")", 2);
            Reads.fault("", 'p', "(y" + digit + ")", 2);
            Reads.fault("", 'p', "(f" + digit + ")", 2);
        }
        Reads.fault("", 'p', "(12-3)", 3);
        Reads.fault("", 'p', "(1.5.5)", 4);
    }

    private static void namesFromTheEndOn() {
        says("& and a digit ahead of a value, with blanks behind the digit or not, also several times, names it by this digit "
            + "from its end on;");
        for (int name = 0; name <= 9; name++) {
            Reads.to("", 'p', "(&" + name + "n*" + name + ")", "[null,null]");
            Reads.to("", 'p', "(&" + name + "\n n *" + name + ")", "[null,null]");
            Reads.fault("", 'p', "(&" + name + "n*" + (name + 1) % 10 + ")", 5);
        }
        Reads.to("", 'p', "(&1&2 &3\n6*1*2*3)", "[6,6,6,6]");
        Reads.to("", 'p', "(&1&1 6*1)", "[6,6]");
        Reads.to("pc1", 'p', "(&1#\n6*1)", "[6,6]");
        Reads.to("", 'p', "&5\"x\"", "\"x\"");
        Reads.fault("", 'p', "(&1(*1))", 5);
        Reads.fault("", 'p', "&1(:\"a\"*1)", 8);
        Reads.fault("", 'p', "(&1*1)", 5 - 1);
        Reads.to("", 'p', "(&1 5&1(*1 6)*1)", "[5,[5,6],[5,6]]");
        Reads.to("", 'p', "((&1 5)*1)", "[[5],5]");
        Reads.next("", 'p', "(&", TEN);
        Reads.next("", 'p', "(&1", " \n(nyf\"-&*" + TEN);
        Reads.fault("", 'p', "(& 1 5)", 2);
        Reads.fault("", 'p', "(&1)", 3);
        Reads.fault("", 'p', "(:&1\"a\"5)", 2);
        Reads.fault("", 'p', "5&1", 1);
    }

    private static void namesGiven() {
        says("* and a digit is a value, the one that was named so last.");
        Reads.to("", 'p', "(&1 5*1&1 6*1*1)", "[5,5,6,6,6]");
        Reads.to("", 'p', "(&1(-0.50(:\"k\"y))*1)", "[[-0.50,{\"k\":true}],[-0.50,{\"k\":true}]]");
        Reads.to("", 'p', "(:\"a\"&1 5\"b\"*1)", "{\"a\":5,\"b\":5}");
        Reads.to("", 'p', "(&1 5&2*1&1 6*2)", "[5,5,6,5]");
        Reads.to("", 'p', "(&1 5 &1*1*1)", "[5,5,5]");
        Reads.fault("", 'p', "(*1 &1 5)", 2);
        Reads.fault("", 'p', "(&1 5* 1)", 6);
        Reads.fault("", 'p', "(&1 5*x)", 6);
        Reads.fault("", 'p', "*0", 1);
        Bench bench = new Bench();
        bench.read("(&1 5 n)", 'p', 0);
        due("names are of one text", bench.read("(*1)", 'p', 0), -3);
    }

    // ---- lines

    private static void lines() {
        says("'l', lines: a row or map with something in it has the lines of its values, one behind the other, each with [ the "
            + "index ] or . and the key as a text ahead, behind what leads to the row or map itself;");
        Reads.to("", 'l', "[0]=1\n", "[1]");
        Reads.to("", 'l', ".\"a\\\"\"=1\n", "{\"a\\\"\":1}");
        Reads.to("", 'l', "[0][0]=1\n[0][1]=2\n[1].\"a\"[0]=3\n[1].\"a\"[1]=4\n[1].\"b\"=5\n[2]=6\n",
            "[[1,2],{\"a\":[3,4],\"b\":5},6]");
        Reads.to("", 'l', ".\"a\".\"b\"=1\n.\"a\".\"c\"=2\n.\"d\"=3\n", "{\"a\":{\"b\":1,\"c\":2},\"d\":3}");
        StringBuilder sixty = new StringBuilder();
        for (int i = 0; i < 60; i++) {
            sixty.append("[").append(i).append("]=0\n");
        }
        Reads.count("", 'l', sixty.toString(), 61);
        Reads.fault("", 'l', sixty + "[60", sixty.length() + 3);
        Reads.fault("", 'l', sixty + "[61", sixty.length() + 2);
        Reads.fault("", 'l', sixty + "[59", sixty.length() + 1);
        Reads.fault("", 'l', sixty + "[6]", sixty.length() + 2);
        Reads.fault("", 'l', sixty + "[060", sixty.length() + 1);
        Reads.fault("", 'l', sixty + "[600", sixty.length() + 3);
        Reads.fault("", 'l', "[]=1", 1);
        Reads.fault("", 'l', "[0=1", 2);
        Reads.fault("", 'l', "[1]=1", 1);
        Reads.fault("", 'l', "[0]=1\n[2]=1", 7);
        Reads.fault("", 'l', "[0]=1\n.\"a\"=1", 6);
        Reads.fault("", 'l', ".\"a\"=1\n[0]=1", 7);
        Reads.fault("", 'l', ".a=1", 1);
    }

    private static void lineLeaves() {
        says("any other value has one line, of what leads to it, = and the value as in 'b', with [] and {} for rows and maps "
            + "without anything, and the byte 10.");
        for (String leaf : new String[] {"null", "true", "false", "-0.50", "\"=\\n\"", "[]", "{}"}) {
            Reads.to("", 'l', "=" + leaf + "\n", leaf);
            Reads.to("", 'l', "[0]=" + leaf + "\n[1]=" + leaf + "\n", "[" + leaf + "," + leaf + "]");
            Reads.fault("", 'l', "=" + leaf + "\n=" + leaf + "\n", leaf.length() + 2);
            Reads.fault("", 'l', "=" + leaf + "x\n", leaf.length() + 1);
            Reads.fault("", 'l', "[0]=" + leaf + "[1]=" + leaf, leaf.length() + 4);
        }
        Reads.next("", 'l', "[0]=", "ntf\"-[{" + TEN);
        Reads.next("", 'l', "[0]=[", "]");
        Reads.next("", 'l', "[0]={", "}");
        Reads.next("", 'l', "", "[.=");
        Reads.fault("", 'l', "[0]=y", 4 + 0);
        Reads.fault("", 'l', "5", 0);
        Bench bench = new Bench();
        bench.read("[[],{},[[]],{\"a\":{}}]", 'b', 0);
        due("written", bench.write(0, 'l'), "[0]=[]\n[1]={}\n[2][0]=[]\n[3].\"a\"={}\n");
    }

    private static void lastByteOfLines() {
        says("The last byte 10 can be missing.");
        Reads.to("", 'l', "=5", "5");
        Reads.to("", 'l', "=5\n", "5");
        Reads.to("", 'l', "[0]=5\n[1]={}", "[5,{}]");
        Reads.fault("", 'l', "=5\n\n", 3);
        Reads.fault("", 'l', "[0]=5\n\n[1]=6", 6);
        Reads.fault("", 'l', "\n=5", 0);
        Reads.fault("", 'l', "[0]=5[1]=6", 5);
        Reads.fault("", 'l', "", 0);
    }

    private static void noBlanksInLines() {
        says("No blanks and comments are there.");
        String[] parts = {"", "[", "0", "]", ".", "\"a\"", "=", "1", ""};
        for (int i = 1; i < parts.length; i++) {
            StringBuilder text = new StringBuilder();
            int place = 0;
            for (int j = 0; j < parts.length; j++) {
                place = j == i ? text.length() : place;
                text.append(j == i ? " " : "").append(parts[j]);
            }
            Reads.fault("", 'l', text + "\n", place);
            Reads.fault("bc1 pc1", 'l', text.toString().replace(' ', '#') + "\n", place);
        }
        Reads.next("", 'l', "[0]=\"\"", "\n");
        Reads.next("", 'l', "[0]=\"\"\n", "[");
    }

    // ---- twins

    private static void twins() {
        says("In 'b' and 'p', twins are told by a setting: a key that its map has already is refused, or its value is read and "
            + "left out, or it takes the place of the one ahead, at that place.");
        String braces = "{\"a\":1,\"b\":2,\"a\":3,\"c\":4,\"a\":5}";
        String parens = "(:\"a\"1\"b\"2\"a\"3\"c\"4\"a\"5)";
        Reads.fault("", 'b', braces, 15);
        Reads.fault("bt0 pt2", 'b', braces, 15);
        Reads.to("bt1", 'b', braces, "{\"a\":1,\"b\":2,\"c\":4}");
        Reads.to("bt2 pt1", 'b', braces, "{\"a\":5,\"b\":2,\"c\":4}");
        Reads.fault("bt2", 'p', parens, 12);
        Reads.to("pt1 bt2", 'p', parens, "{\"a\":1,\"b\":2,\"c\":4}");
        Reads.to("pt2", 'p', parens, "{\"a\":5,\"b\":2,\"c\":4}");
        String nested = "{\"a\":{\"x\":1,\"x\":2},\"a\":{\"y\":3,\"x\":4,\"y\":5}}";
        Reads.to("bt1", 'b', nested, "{\"a\":{\"x\":1}}");
        Reads.to("bt2", 'b', nested, "{\"a\":{\"y\":5,\"x\":4}}");
        Reads.to("bt0", 'b', "{\"a\":{\"a\":{\"a\":1}},\"b\":{\"a\":1}}", "{\"a\":{\"a\":{\"a\":1}},\"b\":{\"a\":1}}");
        Reads.to("bt0", 'b', "[{\"a\":1},{\"a\":1}]", "[{\"a\":1},{\"a\":1}]");
        Reads.to("bt0", 'b', "{\"a\":1,\"A\":1,\"aa\":1,\"\":1,\"a\\n\":1,\"a \":1}",
            "{\"a\":1,\"A\":1,\"aa\":1,\"\":1,\"a\\n\":1,\"a \":1}");
        Reads.fault("bt1", 'b', "{\"a\":1,\"a\":x}", 11);
        Reads.fault("bt2", 'b', "{\"a\":1,\"a\"}", 10);
        Reads.fault("pt1", 'p', "(:\"a\"1\"a\")", 9);
        Reads.to("bt1", 'b', "{\"\":1,\"\":2}", "{\"\":1}");
        Reads.to("bt2", 'b', "{\"b\":1,\"a\":[1],\"b\":[{\"k\":2}],\"a\":{}}", "{\"b\":[{\"k\":2}],\"a\":{}}");
    }

    private static void twinsInLines() {
        says("In 'l', each value comes once, in its order; a key that its map has already, and that the line does not go on in, "
            + "is refused.");
        for (String settings : new String[] {"", "bt1 pt1", "bt2 pt2"}) {
            Reads.fault(settings, 'l', ".\"a\"=1\n.\"a\"=2\n", 10);
            Reads.fault(settings, 'l', ".\"a\"=1\n.\"b\"=2\n.\"a\"=3\n", 17);
            Reads.fault(settings, 'l', ".\"a\"={}\n.\"a\".\"b\"=1\n", 11);
            Reads.fault(settings, 'l', ".\"a\"[0]=1\n.\"b\"=2\n.\"a\"[1]=3\n", 20);
            Reads.fault(settings, 'l', "[0].\"a\"=1\n[0].\"a\"=2\n", 16);
        }
        Reads.fault("", 'l', ".\"a\"[0]=1\n.\"a\"[0]=2\n", 15);
        Reads.fault("", 'l', ".\"a\"[0]=1\n.\"a\".\"b\"=2\n", 14);
        Reads.fault("", 'l', ".\"a\"[0]=1\n.\"a\"=2\n", 14);
        Reads.fault("", 'l', "[0]=1\n[0]=1\n", 7);
        Reads.fault("", 'l', "[0][0]=1\n[0]=1\n", 12);
        Reads.fault("", 'l', "[0][0]=1\n[1]=1\n[0][1]=1\n", 16);
        Reads.fault("", 'l', "[0]=[]\n[0][0]=1\n", 8);
        Reads.fault("", 'l', "[0].\"a\"=1\n[0][0]=1\n", 13);
        Reads.fault("", 'l', "=1\n[0]=1\n", 3);
        Reads.fault("", 'l', "={}\n.\"a\"=1\n", 4);
        Reads.to("", 'l', ".\"a\".\"b\"=1\n.\"a\".\"a\"=2\n.\"b\".\"a\"=3\n", "{\"a\":{\"b\":1,\"a\":2},\"b\":{\"a\":3}}");
        Reads.to("", 'l', "[0].\"a\"=1\n[1].\"a\"=2\n", "[{\"a\":1},{\"a\":2}]");
    }

    // ---- reading

    private static void faults() {
        says("Reading. A text is one value of a dialect.");
        Reads.fault("", 'b', "1 1", 2);
        Reads.fault("", 'b', "[] []", 3);
        Reads.fault("", 'p', "n n", 2);
        Reads.fault("", 'p', "()()", 2);
        Reads.fault("", 'p', "&1 5*1", 4);
        Reads.fault("", 'l', "=1\n=2\n", 3);
        Reads.fault("", 'b', "", 0);
        Reads.fault("", 'p', "", 0);
        Reads.fault("", 'b', " \n", 2);
        Reads.fault("pc1", 'p', " #1", 3);
    }

    private static void endsTooEarly() {
        says("Its fault is the place of the first byte with which no text of the dialect goes on, whatever might follow, its "
            + "limits and settings regarded, or its length, if it ends too early.");
        String braces = " { \"a\\n\" : [ null , true,false,-12.50,\"\",{},[] ] }";
        for (int i = 0; i < braces.length(); i++) {
            Reads.fault("", 'b', braces.substring(0, i), i);
        }
        String parens = "(:\"a\\n\" (n y f -12.50 &1 \"\"(:)()*1))";
        for (int i = 0; i < parens.length(); i++) {
            Reads.fault("", 'p', parens.substring(0, i), i);
        }
        String lines = ".\"a\\n\"[0]=null\n.\"a\\n\"[1]=\"b\"\n.\"c\".\"\"=-0.50\n";
        for (int i = 0; i < lines.length(); i++) {
            String line = lines.substring(lines.substring(0, i).lastIndexOf('\n') + 1, i);
            if (i == 0 || !line.matches("|.*=(null|\"b\"|-0(\\.5)?0?)")) {
                Reads.fault("", 'l', lines.substring(0, i), i);
            } else {
                Reads.count("", 'l', lines.substring(0, i), i < 33 ? i < 18 ? 3 : 4 : 6);
            }
        }
    }

    private static void nextBytes() {
        Reads.next("", 'b', "[1", ",] \n." + TEN);
        Reads.next("", 'b', "[-", TEN);
        Reads.next("", 'b', "[0", ",] \n.");
        Reads.next("", 'b', "[-0", ",] \n.");
        Reads.next("", 'b', "[1.", TEN);
        Reads.next("", 'b', "[0.000", ",] \n" + TEN);
        Reads.next("", 'b', "[0.0000", ",] \n");
        Reads.next("", 'b', "[" + NINE, ",] \n");
        Reads.next("", 'b', "[12345678", ",] \n." + TEN);
        Reads.next("", 'b', "[12345678.9", ",] \n");
        Reads.next("", 'b', "[1234567.9", ",] \n" + TEN);
        Reads.next("", 'b', "[1,", " \n[{ntf\"-" + TEN);
        Reads.next("be1", 'b', "[1,", " \n[]{ntf\"-" + TEN);
        Reads.next("be1", 'b', "{\"a\":1,", " \n}\"");
        Reads.next("", 'b', "{\"a\":1,", " \n\"");
        Reads.next("", 'b', "{", " \n}\"");
        Reads.next("", 'b', "{\"a\"", " \n:");
        Reads.next("", 'b', "{\"a\":", " \n[{ntf\"-" + TEN);
        Reads.next("", 'b', "{\"a\":[]", " \n,}");
        Reads.next("", 'b', "nul", "l");
        Reads.next("", 'b', "[\"" + LETTERS, "\"");
        Reads.next("", 'p', "(1", ") \n.(\"&*" + TEN);
        Reads.next("", 'p', "(n", ") \n(\"&*");
        Reads.next("", 'p', "(" + NINE, ") \n(\"&*");
        Reads.next("", 'p', "(n ", ") \n(nyf\"-&*" + TEN);
        Reads.next("", 'p', "(\"\"", ") \n(nyf\"-&*" + TEN);
        Reads.next("", 'p', "(&7 n*7", ") \n(nyf\"-&*" + TEN);
        Reads.next("", 'p', "(&7 n*", "7");
        Reads.next("", 'p', "(:", ") \n\"");
        Reads.next("", 'p', "(:\"a\"", " \n(nyf\"-&*" + TEN);
        Reads.next("", 'p', "(:\"a\" 1", ") \n.\"" + TEN);
        Reads.next("", 'l', "[0]=1", "\n." + TEN);
        Reads.next("", 'l', "[0]=1\n", "[");
        Reads.next("", 'l', "[0]=1\n[", "1");
        Reads.next("", 'l', "[0][0]=1\n[", "01");
        Reads.next("", 'l', "[0][0]=1\n[0]", "[");
        Reads.next("", 'l', "[0].\"a\"=1\n[0]", ".");
        Reads.next("", 'l', "[0].\"a\"=1\n[1]", ".[=");
        Reads.next("", 'l', ".\"a\"", ".[=");
        Reads.next("", 'l', ".\"a\"=1\n.", "\"");
        Reads.next("", 'l', ".\"a\"=1\n.\"a", PRINTED.replace("\"", ""));
        Reads.next("", 'l', ".\"a\"[0]=1\n.\"a", PRINTED);
        Reads.next("", 'l', "[", "0");
        Reads.next("", 'l', "[0", "]");
    }

    private static void faultOfKeysAndNames() {
        says("A key that is refused is told by its closing \", a name that was not given by its digit.");
        Reads.fault("", 'b', "{\"\":1,\"\":2}", 7);
        Reads.fault("", 'b', "{\"" + LETTERS + "\":1,\"" + LETTERS + "\":2}", 47);
        Reads.fault("", 'p', "(:\"a\"1 \"a\"2)", 9);
        Reads.fault("", 'l', ".\"\\n\"=1\n.\"\\n\"=2", 12);
        Reads.next("", 'b', "{\"ab\":1,\"ab", PRINTED.replace("\"", ""));
        Reads.next("", 'p', "(:\"ab\" 1\"ab", PRINTED.replace("\"", ""));
        Reads.next("", 'b', "{\"ab\":1,\"a", PRINTED);
        Reads.fault("", 'p', "(*", 2);
        Reads.fault("", 'p', "(*9)", 2);
        Reads.fault("", 'p', "(&8 1*9)", 6);
        Reads.fault("", 'p', "(&8&9(*8))", 7);
    }

    private static void faultOfTooDeep() {
        says("What would be too many values or too deep is told by the first byte of this value, without & and what belongs to "
            + "it, by the digit of a name behind *, and in 'l' by the [ or . that leads to it, and never ahead of this;");
        for (String value : new String[] {"null", "-1", "\"a\"", "[]", "{}", "x"}) {
            Reads.fault("", 'b', "[[[[[[[[" + value, 8);
            Reads.fault("", 'b', "[[[[[[[{ \"a\" : " + value, 15);
        }
        Reads.fault("", 'b', "[[[[[[[[ ", 9);
        Reads.fault("", 'b', "[[[[[[[{\"a\":", 12);
        for (String value : new String[] {"n", "-1", "\"a\"", "(", "x"}) {
            Reads.fault("", 'p', "((((((((" + value, 8);
            Reads.fault("", 'p', "((((((((&1" + value, 10);
            Reads.fault("", 'p', "((((((((&1 &2\n" + value, 14);
            Reads.fault("", 'p', "(((((((( " + value, 9);
            Reads.fault("", 'p', "((((((((:\"k\" " + value, 13);
        }
        Reads.fault("", 'p', "((((((((&", 9);
        Reads.fault("", 'p', "((((((((&x", 9);
        Reads.fault("", 'p', "((((((((*", 9);
        Reads.fault("", 'p', "(&1 n(((((((*1", 13);
        Reads.fault("", 'p', "(&1(n)((((((*1", 13);
        Reads.fault("", 'p', "(&1(n)((((((&2*1", 15);
        Reads.count("", 'p', "(&1 n((((((*1)))))))", 9);
        Reads.count("", 'p', "(&1(n)(((((*1))))))", 10);
        Reads.count("", 'p', "(&1((((((n))))))*1)", 15);
        Reads.fault("", 'p', "(&1((((((n))))))(*1))", 18);
        String seven = "[0]".repeat(7);
        Reads.to("", 'l', seven + "={}\n", "[[[[[[[{}]]]]]]]");
        Reads.fault("", 'l', seven + "[", 21);
        Reads.fault("", 'l', seven + "[0]=1", 21);
        Reads.fault("", 'l', seven + ".\"a\"=1", 21);
        Reads.fault("", 'l', seven + "x", 21);
        Reads.fault("", 'l', seven + "=1\n" + seven.substring(3) + "[1].", 45);
        Reads.fault("", 'l', ".\"\"".repeat(7) + ".", 21);
        Reads.fault("", 'l', ".\"\"".repeat(7) + "[", 21);
    }

    private static void faultOfTooMany() {
        String full = "[" + "0,".repeat(198) + "0";
        Reads.count("", 'b', full + " ]", 200);
        Reads.fault("", 'b', full + ",", full.length() + 1);
        Reads.fault("", 'b', full + ", \n", full.length() + 3);
        for (String value : new String[] {"null", "-1", "\"a\"", "[]", "{}", "x"}) {
            Reads.fault("", 'b', full + ", " + value, full.length() + 2);
        }
        Reads.fault("", 'b', "[" + "0,".repeat(198) + "{ \"a\" : 0", 1 + 396 + 8);
        Reads.fault("", 'b', "[" + "0,".repeat(198) + "[0", 1 + 396 + 1);
        String parens = "(&1(n n)" + "()".repeat(193);
        int behind = parens.length();
        Reads.count("", 'p', parens + "*1)", 200);
        Reads.count("", 'p', parens + "n n n)", 200);
        Reads.fault("", 'p', parens + "n*1)", behind + 2);
        Reads.fault("", 'p', parens + "n n n n)", behind + 6);
        Reads.fault("", 'p', parens + "n n n&2&3*1)", behind + 10);
        Reads.fault("", 'p', parens + "*1n)", behind + 2);
        Reads.fault("", 'p', parens + "*1 &2 n)", behind + 6);
        Reads.fault("", 'p', parens + "*1(:)", behind + 2);
        Reads.fault("", 'p', parens + "*1\"a\")", behind + 2);
        Reads.fault("", 'p', parens + "*1*1)", behind + 3);
        Reads.fault("", 'p', parens + "*1*9)", behind + 3);
        Reads.fault("", 'p', parens + "*1&", behind + 3);
        Reads.fault("", 'p', parens + "*1*", behind + 3);
        Reads.fault("", 'p', "(" + "()".repeat(198) + "(: \"k\" n))", 404);
    }

    private static void leftOutCount() {
        says("values that are left out or that another one takes the place of count, too, as they are read.");
        for (String settings : new String[] {"bt1", "bt2"}) {
            String twins = "{\"a\":0" + ",\"a\":0".repeat(76);
            Reads.count(settings, 'b', twins + "}", 2);
            Reads.count(settings, 'b', "[" + "0,".repeat(197) + "{}]", 199);
            String rest = ",\"a\":[0" + ",0".repeat(119) + "]";
            Reads.count(settings, 'b', "{\"a\":[0" + ",0".repeat(75) + "]" + rest + "}", settings.equals("bt1") ? 78 : 122);
            Reads.count(settings, 'b', "{\"a\":[0" + ",0".repeat(76) + "]" + rest + "}", settings.equals("bt1") ? 79 : 122);
            String first = "{\"a\":[0" + ",0".repeat(77) + "]";
            Reads.fault(settings, 'b', first + rest + "}", first.length() + rest.length() - 2);
            Reads.fault(settings, 'b', "{\"a\":0,\"a\":[[[[[[[0]]]]]]]}", 18);
        }
        for (String settings : new String[] {"pt1", "pt2"}) {
            String twins = "(:\"a\"" + "(" + "()".repeat(98) + ")\"a\"(" + "()".repeat(98) + ")";
            Reads.count(settings, 'p', twins + ")", 100);
            Reads.count(settings, 'p', twins + "\"a\"n)", settings.equals("pt1") ? 100 : 2);
            Reads.fault(settings, 'p', twins + "\"a\"n\"b\"n)", twins.length() + 7);
        }
    }

    // ---- writing

    private static void writing() {
        says("Writing. In 'b', nothing stands between but , and : alone; in 'p', one blank stands between two values, keys too, "
            + "and none at ( and ) or behind (: ; nothing is named.");
        Bench bench = new Bench();
        due("read", bench.read(" ( &1 n *1 (: \"a\" 1 \"b\" ( ) ) ( ( 2 ) (: ) ) \"x\" y)", 'p', 0), 12);
        due("b", bench.write(0, 'b'), "[null,null,{\"a\":1,\"b\":[]},[[2],{}],\"x\",true]");
        due("p", bench.write(0, 'p'), "(n n (:\"a\" 1 \"b\" ()) ((2) (:)) \"x\" y)");
        bench.read("5", 'b', 0);
        due("p", bench.write(0, 'p'), "5");
        bench.read("{}", 'b', 0);
        due("p", bench.write(0, 'p'), "(:)");
    }

    private static void risingKeys() {
        says("If it is on, maps are written by rising keys, by bytes, a shorter one ahead of those that it begins.");
        String text = "{\"b\":0,\"~\":1,\"a\\n\":2,\"a\":3,\"\":4,\" \":5,\"aa\":6,\"\\n\":7,\"B\":{\"z\":[{\"d\":8,\"c\":9}],\"y\":0}}";
        String rising = "{\"\":4,\"\\n\":7,\" \":5,\"B\":{\"y\":0,\"z\":[{\"c\":9,\"d\":8}]},\"a\":3,\"a\\n\":2,\"aa\":6,\"b\":0,\"~\":1}";
        Bench bench = Reads.bench("bs1");
        bench.read(text, 'b', 0);
        due("b", bench.write(0, 'b'), rising);
        due("p", bench.write(0, 'p').startsWith("(:\"b\" 0 \"~\" 1"), true);
        due("l", bench.write(0, 'l').startsWith(".\"b\"=0\n.\"~\"=1\n"), true);
        bench.mill.set('b', 's', 0);
        bench.mill.set('p', 's', 1);
        due("b", bench.write(0, 'b'), text);
        due("p", bench.write(0, 'p').startsWith("(:\"\" 4 \"\\n\" 7 \" \" 5"), true);
        bench.mill.set('p', 's', 0);
        bench.mill.set('l', 's', 1);
        due("p", bench.write(0, 'p').startsWith("(:\"b\" 0 \"~\" 1"), true);
        due("l", bench.write(0, 'l').startsWith(".\"\"=4\n.\"\\n\"=7\n.\" \"=5\n.\"B\".\"y\"=0\n.\"B\".\"z\"[0].\"c\"=9\n"), true);
        bench.read("[3,1,2]", 'b', 0);
        due("rows stay", bench.write(0, 'l'), "[0]=3\n[1]=1\n[2]=2\n");
    }

    // ---- paths

    private static void pathNext(String beginning, String allowed) {
        Bench bench = new Bench();
        bench.read("[0]", 'b', 0);
        for (char value = 0; value < 256; value++) {
            int answer = bench.select(0, beginning + value);
            boolean goesOn = answer >= 0 || -1 - answer == beginning.length() + 1;
            due("path " + beginning + " and the byte " + (int) value, goesOn, allowed.indexOf(value) >= 0);
            due("path " + beginning + " and the byte " + (int) value, goesOn || -1 - answer == beginning.length(), true);
        }
    }

    private static void pathSteps() {
        says("Paths. A path is a text of steps, each one of: . and a key as a text: the value for this key of each map;");
        pathNext("", "*?.[");
        pathNext("*", "*?.[");
        pathNext("?*", "*?.[");
        pathNext(".", "\"");
        pathNext(".\"", PRINTED);
        pathNext(".\"a", PRINTED);
        pathNext(".\"" + LETTERS.substring(1), PRINTED);
        pathNext(".\"" + LETTERS, "\"");
        pathNext(".\"\\", "\\\"n");
        pathNext(".\"a\"", "*?.[");
        Bench bench = new Bench();
        bench.read("{\"\":1,\"\\n\":2,\"" + LETTERS + "\":3,\"a\":{\"a\":4}}", 'b', 0);
        String[] keys = {"", "\\n", LETTERS, "b", "A", LETTERS.substring(1)};
        int[] numbers = {1, 2, 3, -1, -1, -1};
        for (int i = 0; i < keys.length; i++) {
            due("." + keys[i], bench.select(0, ".\"" + keys[i] + "\""), numbers[i] > 0 ? 1 : 0);
            due("." + keys[i], numbers[i] > 0 ? bench.mill.numberOf(0) : -1, numbers[i]);
        }
        due("just of maps", bench.select(0, ".\"\".\"\""), 0);
        due("each map", bench.select(0, "?.\"a\""), 2);
        bench.read("[1]", 'b', 1);
        due("no map", bench.select(1, ".\"\""), 0);
    }

    private static void pathIndexes() {
        says("[ an index of 1 to 3 digits, without zeros ahead ]: the value there of each row;");
        pathNext("[", TEN);
        pathNext("[0", "]");
        pathNext("[1", "]" + TEN);
        pathNext("[10", "]" + TEN);
        pathNext("[100", "]");
        pathNext("[999", "]");
        pathNext("[0]", "*?.[");
        Bench bench = new Bench();
        bench.readLong("[" + "0,".repeat(198) + "-198]", 'b', 0);
        due("the last one", bench.select(0, "[198]"), 1);
        due("the last one", bench.mill.numberOf(0), -198);
        for (String index : new String[] {"[199]", "[200]", "[999]"}) {
            due(index, bench.select(0, index), 0);
        }
        bench.read("{\"0\":1}", 'b', 1);
        due("no row", bench.select(1, "[0]"), 0);
        bench.read("[[],[1],[2,3]]", 'b', 2);
        due("each row", bench.select(2, "*[0]"), 2);
        due("each row", bench.select(2, "*[1]"), 1);
        due("an empty row", bench.select(2, "[0][0]"), 0);
    }

    private static String kinds(Bench bench, String path) {
        int many = bench.select(0, path);
        StringBuilder kinds = new StringBuilder();
        for (int i = 0; i < many; i++) {
            kinds.append(bench.mill.kindOf(i) == 'n' ? "" + bench.mill.numberOf(i) : "" + bench.mill.kindOf(i));
        }
        return kinds.toString();
    }

    private static void pathOrder() {
        Bench bench = new Bench();
        bench.read("{\"a\":[1,{\"b\":2},[3]],\"b\":{\"b\":4},\"c\":5}", 'b', 0);
        says("* : all values of each row or map;");
        due("*", kinds(bench, "*"), "rm5");
        due("**", kinds(bench, "**"), "1mr4");
        due("****", kinds(bench, "****"), "");
        says("and ? : the value itself, and all values in it, each one ahead of what is in it.");
        due("?", kinds(bench, "?"), "mr1m2r3m45");
        due("of what holds nothing", kinds(bench, ".\"c\"?"), "5");
        says("It selects from a value, step by step: what a step selects from the first value, then from the second one, and "
            + "so on, each time in the order in which it stands;");
        due("?*", kinds(bench, "?*"), "rm51mr234");
        due("*?", kinds(bench, "*?"), "r1m2r3m45");
        due("?.b", kinds(bench, "?.\"b\""), "m24");
        says("each place is selected once, at most, as it comes first.");
        due("??", kinds(bench, "??"), "mr1m2r3m45");
        due("?*?", kinds(bench, "?*?"), "r1m2r3m45");
        due("*?*", kinds(bench, "*?*"), "1mr234");
        due("many steps", kinds(bench, "?".repeat(240)), "mr1m2r3m45");
        says("A path without steps selects the value itself.");
        due("no steps", kinds(bench, ""), "m");
        bench.read("7", 'b', 0);
        due("no steps", kinds(bench, ""), "7");
        due("a number has none", kinds(bench, "*"), "");
    }
}
