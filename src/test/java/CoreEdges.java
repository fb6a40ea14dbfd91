/** "Terms", of the core and of what the dialects share: each sentence at the edges that it names. */
final class CoreEdges {
    private CoreEdges() {
    }

    static void all() {
        sameCore();
        kindsOfValues();
        digitsOfNumbers();
        notationOfNumbers();
        numbersBelowOne();
        textsUpToTwentyBytes();
        bytesOfTexts();
        depthOfValues();
        depthAtMostEight();
        valuesAtMostTwoHundred();
        sameValues();
        writtenNumbers();
        writtenTexts();
        blanks();
        comments();
    }

    private static void says(String words) {
        Doc.says(0, words);
    }

    private static void due(String what, Object got, Object due) {
        Bench.due(Doc.told() + what, got, due);
    }

    private static String inDialect(char dialect, String plain) {
        return dialect == 'l' ? "=" + plain + "\n" : plain;
    }

    private static int ahead(char dialect) {
        return dialect == 'l' ? 1 : 0;
    }

    private static void sameCore() {
        says("Texts, settings, pieces and edits come by calls; values, places, sums and losses are asked. What is "
            + "written and read again is the same core, and a text read in pieces is the same as all at once.");
        Bench bench = new Bench();
        String text = "{\"b\":[null,true,-0.50,-0],\"a\":{\"\":\"\\n\\\"\\\\\"},\"c\":[[],{}]}";
        bench.read(text, 'b', 0);
        for (char dialect : "bpl".toCharArray()) {
            String written = bench.write(0, dialect);
            for (int cut = 0; cut <= written.length(); cut += 7) {
                Bench again = new Bench();
                again.mill.begin(dialect);
                again.lay(0, written.substring(0, cut));
                due("a piece", again.mill.piece(0), -1);
                again.lay(0, written.substring(cut));
                due("a piece", again.mill.piece(0), -1);
                due("values", again.mill.finish(0), 11);
                due("read again from " + dialect, again.write(0, 'b'), text);
            }
        }
    }

    private static void kindsOfValues() {
        says("Core. A value is nothing, a truth, a number, a text, a row of values, or a map of values by keys, which "
            + "are texts, in the order in which they came.");
        Reads.to("", 'b', "[null,true,false,0,\"\",[0],{\"\":0}]", "[null,true,false,0,\"\",[0],{\"\":0}]");
        Reads.to("", 'b', "{\"b\":1,\"a\":2,\"\":3,\"B\":4}", "{\"b\":1,\"a\":2,\"\":3,\"B\":4}");
        Reads.to("", 'p', "(:\"b\"1\"a\"2\"\"3)", "{\"b\":1,\"a\":2,\"\":3}");
        Reads.to("", 'l', ".\"b\"=1\n.\"a\"=2\n.\"\"=3\n", "{\"b\":1,\"a\":2,\"\":3}");
        for (String key : new String[] {"1", "null", "[]", "{}", "a"}) {
            Reads.fault("", 'b', "{" + key + ":1}", 1);
        }
    }

    private static void digitsOfNumbers() {
        says("A number has up to 9 digits behind a sign, of which 0 to 4 stand behind a point;");
        for (int ahead = 1; ahead <= 10; ahead++) {
            for (int behind = 0; behind <= 5; behind++) {
                numberWith(ahead, behind, "");
                numberWith(ahead, behind, "-");
            }
        }
    }

    private static void numberWith(int ahead, int behind, String sign) {
        String point = behind > 0 ? "." + "54321".substring(0, behind) : "";
        String number = sign + "1234567890".substring(0, ahead) + point;
        for (char dialect : "bpl".toCharArray()) {
            if (ahead + behind <= 9 && behind <= 4) {
                Reads.to("", dialect, inDialect(dialect, number), number);
            } else {
                // Behind nine digits no point can stand, as a digit would have to follow it.
                int place = ahead >= 9 ? 9 : ahead + 1 + Math.min(4, 9 - ahead);
                Reads.fault("", dialect, inDialect(dialect, number), ahead(dialect) + sign.length() + place);
            }
        }
    }

    private static void notationOfNumbers() {
        says("how many, and whether there is a - at 0, is its notation;");
        for (String number : new String[] {"0", "0.0", "0.00", "0.000", "0.0000", "-0", "-0.0", "-0.00", "-0.000",
            "-0.0000"}) {
            for (char dialect : "bpl".toCharArray()) {
                Reads.to("", dialect, inDialect(dialect, number), number);
            }
            Bench bench = new Bench();
            bench.read(number, 'b', 0);
            bench.read("0", 'b', 1);
            due(number + " is the same as 0", bench.mill.areSame(0, 1), true);
        }
    }

    private static void numbersBelowOne() {
        says("a number below 1 has one 0 ahead of the point.");
        for (char dialect : "bpl".toCharArray()) {
            int place = ahead(dialect);
            for (String number : new String[] {"0.5", "-0.5", "0.0001", "-0.9999"}) {
                Reads.to("", dialect, inDialect(dialect, number), number);
            }
            Reads.fault("", dialect, inDialect(dialect, ".5"), place);
            Reads.fault("", dialect, inDialect(dialect, "-.5"), place + 1);
            Reads.fault("", dialect, inDialect(dialect, "00.5"), place + 1);
            Reads.fault("", dialect, inDialect(dialect, "-00.5"), place + 2);
            Reads.fault("", dialect, inDialect(dialect, "01"), place + 1);
        }
        Bench bench = new Bench();
        bench.read("[1.0005,-1.05,10.5]", 'b', 0);
        due("change", bench.change(0, "*", '*', 1), 0);
        due("change", bench.change(0, "[0]", '+', -999), 1);
        due("change", bench.change(0, "[1]", '+', 104), 1);
        due("change", bench.change(0, "[2]", '+', -105), 1);
        due("below 1", bench.write(0, 'b'), "[0.9006,-0.01,0.0]");
    }

    private static void textsUpToTwentyBytes() {
        says("A text has up to 20 bytes,");
        for (int many = 0; many <= 22; many++) {
            textWith("x".repeat(many), many, 20);
            textWith("\\n".repeat(many), many, 40);
            textWith("\\\"".repeat(many), many, 40);
            textWith("\\\\".repeat(many), many, 40);
        }
    }

    private static void textWith(String inside, int many, int place) {
        String text = "\"" + inside + "\"";
        read('b', text, text, many, 1 + place);
        read('p', text, text, many, 1 + place);
        read('l', "=" + text, text, many, 2 + place);
        read('b', "{" + text + ":0}", "{" + text + ":0}", many, 2 + place);
        read('p', "(:" + text + " 0)", "{" + text + ":0}", many, 3 + place);
        read('l', "." + text + "=0\n", "{" + text + ":0}", many, 2 + place);
    }

    private static void read(char dialect, String text, String braces, int many, int place) {
        if (many <= 20) {
            Reads.to("", dialect, text, braces);
        } else {
            Reads.fault("", dialect, text, place);
        }
    }

    private static void bytesOfTexts() {
        says("each 10 or from 32 to 126.");
        for (String beginning : new String[] {"\"a", "{\"a"}) {
            Reads.next("", 'b', beginning, Reads.PRINTED);
        }
        for (String beginning : new String[] {"\"a", "(:\"a"}) {
            Reads.next("", 'p', beginning, Reads.PRINTED);
        }
        for (String beginning : new String[] {"=\"a", ".\"a"}) {
            Reads.next("", 'l', beginning, Reads.PRINTED);
        }
        for (int i = 0; i < Reads.PRINTED.length(); i++) {
            char value = Reads.PRINTED.charAt(i);
            String text = "\"" + (value == '"' || value == '\\' ? "\\" : "") + value + "\"";
            Reads.to("", 'b', text, text);
        }
        Reads.to("", 'b', "\"\\n\"", "\"\\n\"");
    }

    private static void depthOfValues() {
        says("The depth of a value is 1, and of a row or a map with something in it 1 more than that of its deepest "
            + "value;");
        String[] texts = {"null", "\"\"", "[]", "{}", "[0]", "{\"a\":0}", "[[]]", "[0,[0],0]", "{\"a\":[{}],\"b\":0}",
            "[[[0]],[[[0]]],[0]]"};
        int[] depths = {1, 1, 1, 1, 2, 2, 2, 3, 3, 5};
        for (int i = 0; i < texts.length; i++) {
            Bench bench = new Bench();
            bench.read(texts[i], 'b', 0);
            due(texts[i], bench.mill.depth(0), depths[i]);
        }
    }

    private static void depthAtMostEight() {
        says("it is at most 8.");
        for (int rows = 0; rows <= 9; rows++) {
            for (String inside : new String[] {"null", "true", "false", "-1", "\"\"", "[]", "{}"}) {
                deep("[".repeat(rows) + inside + "]".repeat(rows), rows + 1);
                deep("{\"k\":".repeat(rows) + inside + "}".repeat(rows), rows + 1);
            }
        }
        Bench bench = new Bench();
        bench.read("[[[[[[[[]]]]]]]]", 'b', 0);
        bench.read("[]", 'b', 1);
        due("replace", bench.replace(1, "", 0), 1);
        due("depth", bench.mill.depth(1), 8);
    }

    private static void deep(String text, int depth) {
        if (depth <= 8) {
            Bench bench = new Bench();
            due(text, bench.read(text, 'b', 0) > 0, true);
            due(text, bench.mill.depth(0), depth);
        } else {
            // A row or map at level 9 is told by its own first byte, whatever is in it.
            Reads.fault("", 'b', text, text.startsWith("[") ? 8 : 40);
        }
    }

    private static void valuesAtMostTwoHundred() {
        says("A value has itself and all in it as its values, at most 200.");
        Reads.count("", 'b', "0", 1);
        Reads.count("", 'b', "[]", 1);
        Reads.count("", 'b', "{\"a\":[0,{\"b\":0}],\"c\":0}", 6);
        Reads.count("", 'b', "[" + "0,".repeat(197) + "0]", 199);
        Reads.count("", 'b', "[" + "0,".repeat(198) + "0]", 200);
        Reads.fault("", 'b', "[" + "0,".repeat(199) + "0]", 399);
        Reads.count("", 'p', "(" + "()".repeat(199) + ")", 200);
        Reads.fault("", 'p', "(" + "()".repeat(200) + ")", 399);
        Reads.count("", 'p', "(" + "(n)".repeat(99) + "n)", 200);
        Reads.fault("", 'p', "(" + "(n)".repeat(99) + "(n))", 299);
        Reads.fault("", 'p', "(" + "(n)".repeat(100) + ")", 299);
    }

    private static void sameValues() {
        says("Two values are the same if they are of the same kind, and the same truth, number whatever its notation, "
            + "or text, or rows of the same values in the same order, or maps with the same keys, in any order, and "
            + "the same values for them.");
        String[] values = {"null", "true", "false", "0", "1", "-1", "10", "1.5", "-1.5", "999999999", "99999.9999",
            "\"\"", "\"0\"", "\"null\"", "\"a\"", "\"b\"", "\"ab\"", "[]", "{}", "[null]", "[0]", "[[]]", "[0,1]",
            "[1,0]", "[0,0]", "{\"a\":0}", "{\"b\":0}", "{\"a\":1}", "{\"a\":0,\"b\":1}", "{\"a\":1,\"b\":0}",
            "[{\"a\":0}]"};
        for (int i = 0; i < values.length; i++) {
            for (int j = 0; j < values.length; j++) {
                same(values[i], values[j], i == j);
            }
        }
        same("0", "-0.0000", true);
        same("1.5", "1.5000", true);
        same("-20", "-20.00", true);
        same("1.5", "15", false);
        same("99999.9999", "99999.9998", false);
        same("{\"a\":0,\"b\":[1.0]}", "{\"b\":[1],\"a\":-0}", true);
        same("[{\"a\":0,\"b\":1},2]", "[{\"b\":1,\"a\":0},2]", true);
        same("{\"a\":0,\"b\":1}", "{\"a\":0,\"b\":1,\"c\":2}", false);
    }

    private static void same(String one, String other, boolean due) {
        Bench bench = new Bench();
        bench.read(one, 'b', 0);
        bench.read(other, 'b', 1);
        due(one + " and " + other, bench.mill.areSame(0, 1), due);
        due(one + " and " + other, bench.mill.differences(0, 1) == 0, due);
        due(one + " and " + other, bench.mill.sum(0) == bench.mill.sum(1), due);
    }

    private static void writtenNumbers() {
        says("Common. A number is written as it stands: - if it is less than 0, or its notation says so, digits "
            + "without zeros ahead, 0 for none, and a point with the digits behind it.");
        Bench bench = new Bench();
        String text = "[0,-0,0.0,-0.00,5,-5,10,0.05,-0.05,0.50,100.0,-999999999,99999.9999,0.0001,-0.0000]";
        bench.read(text, 'b', 0);
        due("b", bench.write(0, 'b'), text);
        due("p", bench.write(0, 'p'), text.replace('[', '(').replace(']', ')').replace(',', ' '));
        due("l", bench.write(0, 'l').replaceAll("\n?\\[[0-9]*\\]=", ","), text.replace('[', ',').replace(']', '\n'));
        due("to 0", bench.change(0, "*", '*', 0), 13);
        due("0 for none", bench.write(0, 'b'), "[0,0,0.0,0.00,0,0,0,0.00,0.00,0.00,0.0,0,0.0000,0.0000,0.0000]");
    }

    private static void writtenTexts() {
        says("A text is written between two \", with \\ ahead of each \" and \\, and \\n for the byte 10, which does "
            + "not stand there itself.");
        String text = "{\"\\\"\\\\\\n\":\"\\n\\\\\\\"n\"}";
        for (char dialect : "bp".toCharArray()) {
            String written = dialect == 'b' ? text : "(:\"\\\"\\\\\\n\" \"\\n\\\\\\\"n\")";
            Reads.to("", dialect, written, text);
            Bench bench = new Bench();
            bench.read(text, 'b', 0);
            due("written", bench.write(0, dialect), written);
        }
        for (String beginning : new String[] {"\"a\\", "{\"a\\"}) {
            Reads.next("", 'b', beginning, "\"\\n");
        }
        Reads.next("", 'p', "(:\"a\\", "\"\\n");
        Reads.next("", 'l', ".\"a\\", "\"\\n");
        Reads.next("", 'l', "=\"a\\", "\"\\n");
        Reads.fault("", 'b', "\"a\nb\"", 2);
        Reads.fault("", 'l', "=\"a\nb\"", 3);
    }

    private static void blanks() {
        says("Blanks are the bytes 32 and 10;");
        Reads.next("", 'b', "[1]", " \n");
        Reads.next("", 'p', "(1)", " \n");
        Reads.next("", 'b', "[", " \n[]{ntf\"-" + Reads.DIGITS);
        Reads.next("", 'p', "(", " \n(:)nyf\"-&*" + Reads.DIGITS);
        Reads.next("", 'b', "", " \n[{ntf\"-" + Reads.DIGITS);
        Reads.next("", 'p', "", " \n(nyf\"-&*" + Reads.DIGITS);
        Reads.to("", 'b', " \n \n\n[ \n ] \n", "[]");
    }

    private static void comments() {
        says("comments, if they are on in the dialect, go from # up to the next byte 10 or the end, and count as "
            + "blanks.");
        for (char dialect : "bp".toCharArray()) {
            String on = dialect + "c1";
            String other = dialect == 'b' ? "pc1" : "bc1";
            String row = dialect == 'b' ? "[1,2]" : "(1 2)";
            Reads.next(on, dialect, "\"a\"", " \n#");
            Reads.next(other, dialect, "\"a\"", " \n");
            Reads.to(on, dialect, row + "#", "[1,2]");
            Reads.to(on, dialect, row + "#\n", "[1,2]");
            Reads.to(on, dialect, "#]#\"\\\n" + row + "##x", "[1,2]");
            Reads.fault(on, dialect, row + "#\n2", 7);
            Reads.fault(on, dialect, "#" + row, 6);
            Reads.fault(other, dialect, "#\n" + row, 0);
            StringBuilder all = new StringBuilder("#");
            for (char value = 0; value < 256; value += value == 9 ? 2 : 1) {
                all.append(value);
            }
            Reads.to(on, dialect, all.substring(0, 200) + "\n1", "1");
            Reads.to(on, dialect, "1#" + all.substring(200), "1");
            Reads.to(on, dialect, "\"#\"", "\"#\"");
        }
        Reads.to("pc1", 'p', "(1#\n2)", "[1,2]");
        Reads.fault("pc1", 'p', "(1#2)", 5);
        Reads.fault("bc1 pc1", 'l', "=1#\n", 2);
    }
}
