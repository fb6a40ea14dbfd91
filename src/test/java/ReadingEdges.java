/** "Terms", of reading, writing and paths: each sentence at the edges that it names. */
final class ReadingEdges {
    private ReadingEdges() {
    }

    static void all() {
        faults();
        endsTooEarly();
        nextBytes();
        faultOfKeysAndNames();
        faultOfTooDeep();
        faultOfTooMany();
        leftOutCount();
        writing();
        risingKeys();
        pathSteps();
        pathIndexes();
        pathOrder();
    }

    private static void says(String words) {
        Doc.says(0, words);
    }

    private static void due(String what, Object got, Object due) {
        Bench.due(Doc.told() + what, got, due);
    }

    private static void faults() {
        says("Reading. A text is one value of a dialect.");
        Reads.fault("", 'b', "1 1", 2);
        Reads.fault("", 'b', "[] []", 3);
        Reads.fault("", 'p', "n n", 2);
        Reads.fault("", 'p', "()()", 2);
        Reads.fault("", 'p', "&1 5*1", 4);
        Reads.fault("", 'l', "=1\n=2\n", 3);
        Reads.fault("", 'b', "", 0);
        Reads.fault("", 'p', "", 0);
        Reads.fault("", 'b', " \n", 2);
        Reads.fault("pc1", 'p', " #1", 3);
    }

    private static void endsTooEarly() {
        says("Its fault is the place of the first byte with which no text of the dialect goes on, whatever might "
            + "follow, its limits and settings regarded, or its length, if it ends too early.");
        String braces = " { \"a\\n\" : [ null , true,false,-12.50,\"\",{},[] ] }";
        for (int i = 0; i < braces.length(); i++) {
            Reads.fault("", 'b', braces.substring(0, i), i);
        }
        String parens = "(:\"a\\n\" (n y f -12.50 &1 \"\"(:)()*1))";
        for (int i = 0; i < parens.length(); i++) {
            Reads.fault("", 'p', parens.substring(0, i), i);
        }
        String lines = ".\"a\\n\"[0]=null\n.\"a\\n\"[1]=\"b\"\n.\"c\".\"\"=-0.50\n";
        for (int i = 0; i < lines.length(); i++) {
            String line = lines.substring(lines.substring(0, i).lastIndexOf('\n') + 1, i);
            if (i == 0 || !line.matches("|.*=(null|\"b\"|-0(\\.5)?0?)")) {
                Reads.fault("", 'l', lines.substring(0, i), i);
            } else {
                Reads.count("", 'l', lines.substring(0, i), i < 33 ? i < 18 ? 3 : 4 : 6);
            }
        }
    }

    private static void nextBytes() {
        Reads.next("", 'b', "[1", ",] \n." + Reads.DIGITS);
        Reads.next("", 'b', "[-", Reads.DIGITS);
        Reads.next("", 'b', "[0", ",] \n.");
        Reads.next("", 'b', "[-0", ",] \n.");
        Reads.next("", 'b', "[1.", Reads.DIGITS);
        Reads.next("", 'b', "[0.000", ",] \n" + Reads.DIGITS);
        Reads.next("", 'b', "[0.0000", ",] \n");
        Reads.next("", 'b', "[" + "123456789", ",] \n");
        Reads.next("", 'b', "[12345678", ",] \n." + Reads.DIGITS);
        Reads.next("", 'b', "[12345678.9", ",] \n");
        Reads.next("", 'b', "[1234567.9", ",] \n" + Reads.DIGITS);
        Reads.next("", 'b', "[1,", " \n[{ntf\"-" + Reads.DIGITS);
        Reads.next("be1", 'b', "[1,", " \n[]{ntf\"-" + Reads.DIGITS);
        Reads.next("be1", 'b', "{\"a\":1,", " \n}\"");
        Reads.next("", 'b', "{\"a\":1,", " \n\"");
        Reads.next("", 'b', "{", " \n}\"");
        Reads.next("", 'b', "{\"a\"", " \n:");
        Reads.next("", 'b', "{\"a\":", " \n[{ntf\"-" + Reads.DIGITS);
        Reads.next("", 'b', "{\"a\":[]", " \n,}");
        Reads.next("", 'b', "nul", "l");
        Reads.next("", 'b', "[\"" + Reads.TWENTY, "\"");
        Reads.next("", 'p', "(1", ") \n.(\"&*" + Reads.DIGITS);
        Reads.next("", 'p', "(n", ") \n(\"&*");
        Reads.next("", 'p', "(" + "123456789", ") \n(\"&*");
        Reads.next("", 'p', "(n ", ") \n(nyf\"-&*" + Reads.DIGITS);
        Reads.next("", 'p', "(\"\"", ") \n(nyf\"-&*" + Reads.DIGITS);
        Reads.next("", 'p', "(&7 n*7", ") \n(nyf\"-&*" + Reads.DIGITS);
        Reads.next("", 'p', "(&7 n*", "7");
        Reads.next("", 'p', "(:", ") \n\"");
        Reads.next("", 'p', "(:\"a\"", " \n(nyf\"-&*" + Reads.DIGITS);
        Reads.next("", 'p', "(:\"a\" 1", ") \n.\"" + Reads.DIGITS);
        Reads.next("", 'l', "[0]=1", "\n." + Reads.DIGITS);
        Reads.next("", 'l', "[0]=1\n", "[");
        Reads.next("", 'l', "[0]=1\n[", "1");
        Reads.next("", 'l', "[0][0]=1\n[", "01");
        Reads.next("", 'l', "[0][0]=1\n[0]", "[");
        Reads.next("", 'l', "[0].\"a\"=1\n[0]", ".");
        Reads.next("", 'l', "[0].\"a\"=1\n[1]", ".[=");
        Reads.next("", 'l', ".\"a\"", ".[=");
        Reads.next("", 'l', ".\"a\"=1\n.", "\"");
        Reads.next("", 'l', ".\"a\"=1\n.\"a", Reads.PRINTED.replace("\"", ""));
        Reads.next("", 'l', ".\"a\"[0]=1\n.\"a", Reads.PRINTED);
        Reads.next("", 'l', "[", "0");
        Reads.next("", 'l', "[0", "]");
    }

    private static void faultOfKeysAndNames() {
        says("A key that is refused is told by its closing \", a name that was not given by its digit.");
        Reads.fault("", 'b', "{\"\":1,\"\":2}", 7);
        Reads.fault("", 'b', "{\"" + Reads.TWENTY + "\":1,\"" + Reads.TWENTY + "\":2}", 47);
        Reads.fault("", 'p', "(:\"a\"1 \"a\"2)", 9);
        Reads.fault("", 'l', ".\"\\n\"=1\n.\"\\n\"=2", 12);
        Reads.next("", 'b', "{\"ab\":1,\"ab", Reads.PRINTED.replace("\"", ""));
        Reads.next("", 'p', "(:\"ab\" 1\"ab", Reads.PRINTED.replace("\"", ""));
        Reads.next("", 'b', "{\"ab\":1,\"a", Reads.PRINTED);
        Reads.fault("", 'p', "(*", 2);
        Reads.fault("", 'p', "(*9)", 2);
        Reads.fault("", 'p', "(&8 1*9)", 6);
        Reads.fault("", 'p', "(&8&9(*8))", 7);
    }

    private static void faultOfTooDeep() {
        says("What would be too many values or too deep is told by the first byte of this value, without & and what "
            + "belongs to it, by the digit of a name behind *, and in 'l' by the [ or . that leads to it, and never "
            + "ahead of this;");
        for (String value : new String[] {"null", "-1", "\"a\"", "[]", "{}", "x"}) {
            Reads.fault("", 'b', "[[[[[[[[" + value, 8);
            Reads.fault("", 'b', "[[[[[[[{ \"a\" : " + value, 15);
        }
        Reads.fault("", 'b', "[[[[[[[[ ", 9);
        Reads.fault("", 'b', "[[[[[[[{\"a\":", 12);
        for (String value : new String[] {"n", "-1", "\"a\"", "(", "x"}) {
            Reads.fault("", 'p', "((((((((" + value, 8);
            Reads.fault("", 'p', "((((((((&1" + value, 10);
            Reads.fault("", 'p', "((((((((&1 &2\n" + value, 14);
            Reads.fault("", 'p', "(((((((( " + value, 9);
            Reads.fault("", 'p', "((((((((:\"k\" " + value, 13);
        }
        Reads.fault("", 'p', "((((((((&", 9);
        Reads.fault("", 'p', "((((((((&x", 9);
        Reads.fault("", 'p', "((((((((*", 9);
        Reads.fault("", 'p', "(&1 n(((((((*1", 13);
        Reads.fault("", 'p', "(&1(n)((((((*1", 13);
        Reads.fault("", 'p', "(&1(n)((((((&2*1", 15);
        Reads.count("", 'p', "(&1 n((((((*1)))))))", 9);
        Reads.count("", 'p', "(&1(n)(((((*1))))))", 10);
        Reads.count("", 'p', "(&1((((((n))))))*1)", 15);
        Reads.fault("", 'p', "(&1((((((n))))))(*1))", 18);
        String seven = "[0]".repeat(7);
        Reads.to("", 'l', seven + "={}\n", "[[[[[[[{}]]]]]]]");
        Reads.fault("", 'l', seven + "[", 21);
        Reads.fault("", 'l', seven + "[0]=1", 21);
        Reads.fault("", 'l', seven + ".\"a\"=1", 21);
        Reads.fault("", 'l', seven + "x", 21);
        Reads.fault("", 'l', seven + "=1\n" + seven.substring(3) + "[1].", 45);
        Reads.fault("", 'l', ".\"\"".repeat(7) + ".", 21);
        Reads.fault("", 'l', ".\"\"".repeat(7) + "[", 21);
    }

    private static void faultOfTooMany() {
        String full = "[" + "0,".repeat(198) + "0";
        Reads.count("", 'b', full + " ]", 200);
        Reads.fault("", 'b', full + ",", full.length() + 1);
        Reads.fault("", 'b', full + ", \n", full.length() + 3);
        for (String value : new String[] {"null", "-1", "\"a\"", "[]", "{}", "x"}) {
            Reads.fault("", 'b', full + ", " + value, full.length() + 2);
        }
        Reads.fault("", 'b', "[" + "0,".repeat(198) + "{ \"a\" : 0", 1 + 396 + 8);
        Reads.fault("", 'b', "[" + "0,".repeat(198) + "[0", 1 + 396 + 1);
        String parens = "(&1(n n)" + "()".repeat(193);
        int behind = parens.length();
        Reads.count("", 'p', parens + "*1)", 200);
        Reads.count("", 'p', parens + "n n n)", 200);
        Reads.fault("", 'p', parens + "n*1)", behind + 2);
        Reads.fault("", 'p', parens + "n n n n)", behind + 6);
        Reads.fault("", 'p', parens + "n n n&2&3*1)", behind + 10);
        Reads.fault("", 'p', parens + "*1n)", behind + 2);
        Reads.fault("", 'p', parens + "*1 &2 n)", behind + 6);
        Reads.fault("", 'p', parens + "*1(:)", behind + 2);
        Reads.fault("", 'p', parens + "*1\"a\")", behind + 2);
        Reads.fault("", 'p', parens + "*1*1)", behind + 3);
        Reads.fault("", 'p', parens + "*1*9)", behind + 3);
        Reads.fault("", 'p', parens + "*1&", behind + 3);
        Reads.fault("", 'p', parens + "*1*", behind + 3);
        Reads.fault("", 'p', "(" + "()".repeat(198) + "(: \"k\" n))", 404);
        // A key is told by itself, even if its value would be too many.
        String map = "{\"a\":[0" + ",0".repeat(197) + "],";
        Reads.fault("", 'b', map + "\"a\":0}", map.length() + 2);
        Reads.fault("", 'b', map + "\"aa\":0}", map.length() + 5);
        Reads.fault("bt1", 'b', map + "\"a\" : 0}", map.length() + 6);
        Reads.fault("bt2", 'b', map + "\"a\" : 0}", map.length() + 6);
        Reads.fault("", 'p', "(:\"a\"(" + "()".repeat(198) + ")\"a\"n)", 6 + 396 + 3);
        Reads.fault("", 'p', "(:\"a\"(" + "()".repeat(198) + ")\"\"n)", 6 + 396 + 3);
    }

    private static void leftOutCount() {
        says("values that are left out or that another one takes the place of count, too, as they are read.");
        for (String settings : new String[] {"bt1", "bt2"}) {
            String twins = "{\"a\":0" + ",\"a\":0".repeat(76);
            Reads.count(settings, 'b', twins + "}", 2);
            Reads.count(settings, 'b', "[" + "0,".repeat(197) + "{}]", 199);
            String rest = ",\"a\":[0" + ",0".repeat(119) + "]";
            boolean keepsFirst = settings.equals("bt1");
            Reads.count(settings, 'b', "{\"a\":[0" + ",0".repeat(75) + "]" + rest + "}", keepsFirst ? 78 : 122);
            Reads.count(settings, 'b', "{\"a\":[0" + ",0".repeat(76) + "]" + rest + "}", keepsFirst ? 79 : 122);
            String first = "{\"a\":[0" + ",0".repeat(77) + "]";
            Reads.fault(settings, 'b', first + rest + "}", first.length() + rest.length() - 2);
            Reads.fault(settings, 'b', "{\"a\":0,\"a\":[[[[[[[0]]]]]]]}", 18);
        }
        for (String settings : new String[] {"pt1", "pt2"}) {
            String twins = "(:\"a\"" + "(" + "()".repeat(98) + ")\"a\"(" + "()".repeat(98) + ")";
            Reads.count(settings, 'p', twins + ")", 100);
            Reads.count(settings, 'p', twins + "\"a\"n)", settings.equals("pt1") ? 100 : 2);
            Reads.fault(settings, 'p', twins + "\"a\"n\"b\"n)", twins.length() + 7);
        }
    }

    private static void writing() {
        says("Writing. In 'b', nothing stands between but , and : alone; in 'p', one blank stands between two values, "
            + "keys too, and none at ( and ) or behind (: ; nothing is named.");
        Bench bench = new Bench();
        due("read", bench.read(" ( &1 n *1 (: \"a\" 1 \"b\" ( ) ) ( ( 2 ) (: ) ) \"x\" y)", 'p', 0), 12);
        due("b", bench.write(0, 'b'), "[null,null,{\"a\":1,\"b\":[]},[[2],{}],\"x\",true]");
        due("p", bench.write(0, 'p'), "(n n (:\"a\" 1 \"b\" ()) ((2) (:)) \"x\" y)");
        bench.read("5", 'b', 0);
        due("p", bench.write(0, 'p'), "5");
        bench.read("{}", 'b', 0);
        due("p", bench.write(0, 'p'), "(:)");
    }

    private static void risingKeys() {
        says("If it is on, maps are written by rising keys, by bytes, a shorter one ahead of those that it begins.");
        String text = "{\"b\":0,\"~\":1,\"a\\n\":2,\"a\":3,\"\":4,"
            + "\" \":5,\"aa\":6,\"\\n\":7,\"B\":{\"z\":[{\"d\":8,\"c\":9}],\"y\":0}}";
        String rising = "{\"\":4,\"\\n\":7,"
            + "\" \":5,\"B\":{\"y\":0,\"z\":[{\"c\":9,\"d\":8}]},\"a\":3,\"a\\n\":2,\"aa\":6,\"b\":0,\"~\":1}";
        Bench bench = Reads.bench("bs1");
        bench.read(text, 'b', 0);
        due("b", bench.write(0, 'b'), rising);
        due("p", bench.write(0, 'p').startsWith("(:\"b\" 0 \"~\" 1"), true);
        due("l", bench.write(0, 'l').startsWith(".\"b\"=0\n.\"~\"=1\n"), true);
        bench.mill.set('b', 's', 0);
        bench.mill.set('p', 's', 1);
        due("b", bench.write(0, 'b'), text);
        due("p", bench.write(0, 'p').startsWith("(:\"\" 4 \"\\n\" 7 \" \" 5"), true);
        bench.mill.set('p', 's', 0);
        bench.mill.set('l', 's', 1);
        due("p", bench.write(0, 'p').startsWith("(:\"b\" 0 \"~\" 1"), true);
        String lines = ".\"\"=4\n.\"\\n\"=7\n.\" \"=5\n.\"B\".\"y\"=0\n.\"B\".\"z\"[0].\"c\"=9\n";
        due("l", bench.write(0, 'l').startsWith(lines), true);
        bench.read("{\"az\":1,\"aa\":2}", 'b', 0);
        bench.read("{\"a\":1,\"aa\":2}", 'b', 0);
        due("a key in the place of a longer one", bench.write(0, 'l'), ".\"a\"=1\n.\"aa\"=2\n");
        bench.read("[3,1,2]", 'b', 0);
        due("rows stay", bench.write(0, 'l'), "[0]=3\n[1]=1\n[2]=2\n");
    }

    private static void pathNext(String beginning, String allowed) {
        Bench bench = new Bench();
        bench.read("[0]", 'b', 0);
        for (char value = 0; value < 256; value++) {
            int answer = bench.select(0, beginning + value);
            boolean goesOn = answer >= 0 || -1 - answer == beginning.length() + 1;
            String what = "path " + beginning + " and the byte " + (int) value;
            due(what, goesOn, allowed.indexOf(value) >= 0);
            due(what, goesOn || -1 - answer == beginning.length(), true);
        }
    }

    private static void pathSteps() {
        says("Paths. A path is a text of steps, each one of: . and a key as a text: the value for this key of each "
            + "map;");
        pathNext("", "*?.[");
        pathNext("*", "*?.[");
        pathNext("?*", "*?.[");
        pathNext(".", "\"");
        pathNext(".\"", Reads.PRINTED);
        pathNext(".\"a", Reads.PRINTED);
        pathNext(".\"" + Reads.TWENTY.substring(1), Reads.PRINTED);
        pathNext(".\"" + Reads.TWENTY, "\"");
        pathNext(".\"\\", "\\\"n");
        pathNext(".\"a\"", "*?.[");
        Bench bench = new Bench();
        bench.read("{\"\":1,\"\\n\":2,\"" + Reads.TWENTY + "\":3,\"a\":{\"a\":4}}", 'b', 0);
        String[] keys = {"", "\\n", Reads.TWENTY, "b", "A", Reads.TWENTY.substring(1)};
        int[] numbers = {1, 2, 3, -1, -1, -1};
        for (int i = 0; i < keys.length; i++) {
            due("." + keys[i], bench.select(0, ".\"" + keys[i] + "\""), numbers[i] > 0 ? 1 : 0);
            due("." + keys[i], numbers[i] > 0 ? bench.mill.numberOf(0) : -1, numbers[i]);
        }
        due("just of maps", bench.select(0, ".\"\".\"\""), 0);
        due("each map", bench.select(0, "?.\"a\""), 2);
        bench.read("[1]", 'b', 1);
        due("no map", bench.select(1, ".\"\""), 0);
    }

    private static void pathIndexes() {
        says("[ an index of 1 to 3 digits, without zeros ahead ]: the value there of each row;");
        pathNext("[", Reads.DIGITS);
        pathNext("[0", "]");
        pathNext("[1", "]" + Reads.DIGITS);
        pathNext("[10", "]" + Reads.DIGITS);
        pathNext("[100", "]");
        pathNext("[999", "]");
        pathNext("[0]", "*?.[");
        Bench bench = new Bench();
        bench.readLong("[" + "0,".repeat(198) + "-198]", 'b', 0);
        due("the last one", bench.select(0, "[198]"), 1);
        due("the last one", bench.mill.numberOf(0), -198);
        for (String index : new String[] {"[199]", "[200]", "[999]"}) {
            due(index, bench.select(0, index), 0);
        }
        bench.read("{\"0\":1}", 'b', 1);
        due("no row", bench.select(1, "[0]"), 0);
        bench.read("[[],[1],[2,3]]", 'b', 2);
        due("each row", bench.select(2, "*[0]"), 2);
        due("each row", bench.select(2, "*[1]"), 1);
        due("an empty row", bench.select(2, "[0][0]"), 0);
    }

    private static String kinds(Bench bench, String path) {
        int many = bench.select(0, path);
        StringBuilder kinds = new StringBuilder();
        for (int i = 0; i < many; i++) {
            kinds.append(bench.mill.kindOf(i) == 'n' ? "" + bench.mill.numberOf(i) : "" + bench.mill.kindOf(i));
        }
        return kinds.toString();
    }

    private static void pathOrder() {
        Bench bench = new Bench();
        bench.read("{\"a\":[1,{\"b\":2},[3]],\"b\":{\"b\":4},\"c\":5}", 'b', 0);
        says("* : all values of each row or map;");
        due("*", kinds(bench, "*"), "rm5");
        due("**", kinds(bench, "**"), "1mr4");
        due("****", kinds(bench, "****"), "");
        says("and ? : the value itself, and all values in it, each one ahead of what is in it.");
        due("?", kinds(bench, "?"), "mr1m2r3m45");
        due("of what holds nothing", kinds(bench, ".\"c\"?"), "5");
        says("It selects from a value, step by step: what a step selects from the first value, then from the second "
            + "one, and so on, each time in the order in which it stands;");
        due("?*", kinds(bench, "?*"), "rm51mr234");
        due("*?", kinds(bench, "*?"), "r1m2r3m45");
        due("?.b", kinds(bench, "?.\"b\""), "m24");
        says("each place is selected once, at most, as it comes first.");
        due("??", kinds(bench, "??"), "mr1m2r3m45");
        due("?*?", kinds(bench, "?*?"), "r1m2r3m45");
        due("*?*", kinds(bench, "*?*"), "1mr234");
        due("many steps", kinds(bench, "?".repeat(240)), "mr1m2r3m45");
        says("A path without steps selects the value itself.");
        due("no steps", kinds(bench, ""), "m");
        bench.read("7", 'b', 0);
        due("no steps", kinds(bench, ""), "7");
        due("a number has none", kinds(bench, "*"), "");
    }
}
