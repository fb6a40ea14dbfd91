/** "Terms", of the dialects: each sentence at the edges that it names. */
final class DialectEdges {
    private DialectEdges() {
    }

    static void all() {
        braces();
        blanksInBraces();
        lastComma();
        parens();
        blanksInParens();
        tightParens();
        namesFromTheEndOn();
        namesGiven();
        lines();
        lineLeaves();
        lastByteOfLines();
        noBlanksInLines();
        twins();
        twinsInLines();
    }

    private static void says(String words) {
        Doc.says(0, words);
    }

    private static void due(String what, Object got, Object due) {
        Bench.due(Doc.told() + what, got, due);
    }

    private static void braces() {
        says("Dialects. 'b', braces: a value is null, true, false, a number, a text, a row as [ and ] with its values "
            + "parted by , between, or a map as { and } with its pairs parted by , between, each a text, : and the "
            + "value.");
        for (String text : new String[] {"null", "true", "false", "-7.25", "\"x\"", "[]", "{}", "[1]", "[1,2]",
            "{\"a\":1}", "{\"a\":1,\"b\":[{\"c\":{}}]}"}) {
            Reads.to("", 'b', text, text);
        }
        for (String word : new String[] {"null", "true", "false"}) {
            for (int i = 0; i < word.length(); i++) {
                Reads.fault("", 'b', word.substring(0, i) + "x", i);
            }
            Reads.fault("", 'b', word + word, word.length());
        }
        Reads.fault("", 'b', "[1}", 2);
        Reads.fault("", 'b', "{\"a\":1]", 6);
        Reads.fault("", 'b', "[,1]", 1);
        Reads.fault("", 'b', "[1,,2]", 3);
        Reads.fault("", 'b', "{,\"a\":1}", 1);
        Reads.fault("", 'b', "{\"a\":1,,\"b\":2}", 7);
        Reads.fault("", 'b', "{\"a\"::1}", 5);
        Reads.fault("", 'b', "{\"a\",1}", 4);
        Reads.fault("", 'b', "[1:2]", 2);
        Reads.fault("", 'b', "[1 2]", 3);
        Reads.fault("", 'b', "{\"a\":1 \"b\":2}", 7);
        Reads.fault("", 'b', "1,2", 1);
    }

    private static void blanksInBraces() {
        says("Blanks can stand between all of these, and at both ends.");
        String[] parts = {"", "[", "{", "\"a\"", ":", "null", ",", "\"b\"", ":", "-1.5", "}", ",", "\"c\"", ",", "{",
            "}", ",", "[", "]", "]", ""};
        String whole = String.join("", parts);
        for (String blank : new String[] {" ", "\n", " \n "}) {
            Reads.to("", 'b', String.join(blank, parts), whole);
        }
        Reads.to("bc1", 'b', String.join("#,]\n", parts), whole);
        for (String apart : new String[] {"nu ll", "t rue", "fals e", "- 1", "1 2", "1 .5", "1. 5"}) {
            Reads.fault("", 'b', "[" + apart + "]", apart.startsWith("1 ") ? 3 : 1 + apart.indexOf(' '));
        }
    }

    private static void lastComma() {
        says("If it is on, one , can stand behind the last value or pair of a row or map that has one.");
        Reads.to("be1", 'b', "[1,]", "[1]");
        Reads.to("be1", 'b', "[1 , ]", "[1]");
        Reads.to("be1", 'b', "[1,2,]", "[1,2]");
        Reads.to("be1", 'b', "{\"a\":1,}", "{\"a\":1}");
        Reads.to("be1", 'b', "{\"a\":[1,],\"b\":{\"c\":2,},}", "{\"a\":[1],\"b\":{\"c\":2}}");
        Reads.to("be1", 'b', "[1]", "[1]");
        Reads.fault("be1", 'b', "[1,,]", 3);
        Reads.fault("be1", 'b', "{\"a\":1,,}", 7);
        Reads.fault("be1", 'b', "[,]", 1);
        Reads.fault("be1", 'b', "{,}", 1);
        Reads.fault("be1", 'b', "[1,]]", 4);
        Reads.fault("be1", 'b', "[1,}", 3);
        Reads.fault("be1", 'b', "1,", 1);
        Reads.fault("", 'b', "[1,]", 3);
        Reads.fault("", 'b', "[1 , ]", 5);
        Reads.fault("", 'b', "{\"a\":1,}", 7);
        Reads.count("be1", 'b', "[" + "0,".repeat(199) + "]", 200);
        Reads.fault("be1", 'b', "[" + "0,".repeat(200) + "]", 399);
    }

    private static void parens() {
        says("'p', parens: a value is n for nothing, y and f for the truths, a number, a text, a row as ( and ) with "
            + "its values between, or a map as (: and ) with a text and a value again and again between.");
        String[] parens = {"n", "y", "f", "-7.25", "\"x\"", "()", "(:)", "(1)", "(1 2)", "(:\"a\"1)",
            "(:\"a\"(:\"b\"(:))\"c\"n)", "(()(:)\"\"())"};
        String[] braces = {"null", "true", "false", "-7.25", "\"x\"", "[]", "{}", "[1]", "[1,2]", "{\"a\":1}",
            "{\"a\":{\"b\":{}},\"c\":null}", "[[],{},\"\",[]]"};
        for (int i = 0; i < parens.length; i++) {
            Reads.to("", 'p', parens[i], braces[i]);
        }
        for (String wrong : new String[] {"null", "nn", "yy", "ff", "true", "t", "[", "{", ",", ":", ")", "N"}) {
            boolean begins = "nyf".indexOf(wrong.charAt(0)) >= 0;
            Reads.fault("", 'p', wrong, begins ? 1 : 0);
        }
        Reads.fault("", 'p', "(:1 2)", 2);
        Reads.fault("", 'p', "(:n 2)", 2);
        Reads.fault("", 'p', "(:() 2)", 2);
        Reads.fault("", 'p', "(:\"a\":1)", 5);
        Reads.fault("", 'p', "(:\"a\")", 5);
        Reads.fault("", 'p', "(:\"a\"1\"b\")", 9);
        Reads.fault("", 'p', "(:\"a\"1 2)", 7);
        Reads.fault("", 'p', "(::)", 2);
        Reads.fault("", 'p', "(1,2)", 2);
        Reads.fault("", 'p', "(\"a\":1)", 4);
    }

    private static void blanksInParens() {
        says("Blanks can stand as in 'b', but not between ( and :,");
        String[] parts = {"", "(", "(:", "\"a\"", "n", "\"b\"", "-1.5", ")", "y", "&1", "&2", "5", "*1", "()", "(:",
            ")", ")", ""};
        for (String blank : new String[] {" ", "\n", " \n "}) {
            Reads.to("", 'p', String.join(blank, parts), "[{\"a\":null,\"b\":-1.5},true,5,5,[],{}]");
        }
        Reads.to("pc1", 'p', String.join("#)\n", parts), "[{\"a\":null,\"b\":-1.5},true,5,5,[],{}]");
        Reads.fault("", 'p', "( :)", 2);
        Reads.fault("", 'p', "(\n:)", 2);
        Reads.fault("pc1", 'p', "(#\n:)", 3);
        Reads.fault("", 'p', "(1 :)", 3);
    }

    private static void tightParens() {
        says("and one at least stands between two of n, y, f and numbers, if nothing else does.");
        String[] values = {"n", "y", "f", "-1", "-2.5", "\"x\"", "(3)", "(:)", "*1", "&2 8", "&2\"w\""};
        String[] braces = {"null", "true", "false", "-1", "-2.5", "\"x\"", "[3]", "{}", "7", "8", "\"w\""};
        for (int i = 0; i < values.length; i++) {
            for (int j = 0; j < values.length; j++) {
                boolean tight = i < 5 && j < 5;
                String both = "[7," + braces[i] + "," + braces[j] + "]";
                if (tight) {
                    Reads.fault("", 'p', "(&1 7 " + values[i] + values[j] + ")", 6 + values[i].length());
                } else if (i != 9 || j >= 5) {
                    Reads.to("", 'p', "(&1 7 " + values[i] + values[j] + ")", both);
                }
                Reads.to("", 'p', "(&1 7 " + values[i] + " " + values[j] + ")", both);
                Reads.to("", 'p', "(&1 7 " + values[i] + "\n" + values[j] + ")", both);
                Reads.to("pc1", 'p', "(&1 7 " + values[i] + "#\n" + values[j] + ")", both);
            }
        }
        Reads.to("", 'p', "(:\"a\"n\"b\"1)", "{\"a\":null,\"b\":1}");
        Reads.to("", 'p', "(:\"a\"&3n\"b\"*3)", "{\"a\":null,\"b\":null}");
        for (String digit : Reads.DIGITS.split("")) {
            Reads.fault("", 'p', "(n" + digit + ")", 2);
            Reads.fault("", 'p', "(y" + digit + ")", 2);
            Reads.fault("", 'p', "(f" + digit + ")", 2);
        }
        Reads.fault("", 'p', "(12-3)", 3);
        Reads.fault("", 'p', "(1.5.5)", 4);
    }

    private static void namesFromTheEndOn() {
        says("& and a digit ahead of a value, with blanks behind the digit or not, also several times, names it by "
            + "this digit from its end on;");
        for (int name = 0; name <= 9; name++) {
            Reads.to("", 'p', "(&" + name + "n*" + name + ")", "[null,null]");
            Reads.to("", 'p', "(&" + name + "\n n *" + name + ")", "[null,null]");
            Reads.fault("", 'p', "(&" + name + "n*" + (name + 1) % 10 + ")", 5);
        }
        Reads.to("", 'p', "(&1&2 &3\n6*1*2*3)", "[6,6,6,6]");
        Reads.to("", 'p', "(&1&1 6*1)", "[6,6]");
        Reads.to("pc1", 'p', "(&1#\n6*1)", "[6,6]");
        Reads.to("", 'p', "&5\"x\"", "\"x\"");
        Reads.fault("", 'p', "(&1(*1))", 5);
        Reads.fault("", 'p', "&1(:\"a\"*1)", 8);
        Reads.fault("", 'p', "(&1*1)", 4);
        Reads.to("", 'p', "(&1 5&1(*1 6)*1)", "[5,[5,6],[5,6]]");
        Reads.to("", 'p', "((&1 5)*1)", "[[5],5]");
        Reads.next("", 'p', "(&", Reads.DIGITS);
        Reads.next("", 'p', "(&1", " \n(nyf\"-&*" + Reads.DIGITS);
        Reads.fault("", 'p', "(& 1 5)", 2);
        Reads.fault("", 'p', "(&1)", 3);
        Reads.fault("", 'p', "(:&1\"a\"5)", 2);
        Reads.fault("", 'p', "5&1", 1);
    }

    private static void namesGiven() {
        says("* and a digit is a value, the one that was named so last.");
        Reads.to("", 'p', "(&1 5*1&1 6*1*1)", "[5,5,6,6,6]");
        Reads.to("", 'p', "(&1(-0.50(:\"k\"y))*1)", "[[-0.50,{\"k\":true}],[-0.50,{\"k\":true}]]");
        Reads.to("", 'p', "(:\"a\"&1 5\"b\"*1)", "{\"a\":5,\"b\":5}");
        Reads.to("", 'p', "(&1 5&2*1&1 6*2)", "[5,5,6,5]");
        Reads.to("", 'p', "(&1 5 &1*1*1)", "[5,5,5]");
        Reads.to("", 'p', "(&1(&1 5)*1)", "[[5],[5]]");
        Reads.to("", 'p', "(&1(&1 5*1)*1)", "[[5,5],[5,5]]");
        Reads.fault("", 'p', "(*1 &1 5)", 2);
        Reads.fault("", 'p', "(&1 5* 1)", 6);
        Reads.fault("", 'p', "(&1 5*x)", 6);
        Reads.fault("", 'p', "*0", 1);
        Bench bench = new Bench();
        bench.read("(&1 5 n)", 'p', 0);
        due("names are of one text", bench.read("(*1)", 'p', 0), -3);
    }

    private static void lines() {
        says("'l', lines: a row or map with something in it has the lines of its values, one behind the other, each "
            + "with [ the index ] or . and the key as a text ahead, behind what leads to the row or map itself;");
        Reads.to("", 'l', "[0]=1\n", "[1]");
        Reads.to("", 'l', ".\"a\\\"\"=1\n", "{\"a\\\"\":1}");
        Reads.to("", 'l', "[0][0]=1\n[0][1]=2\n[1].\"a\"[0]=3\n[1].\"a\"[1]=4\n[1].\"b\"=5\n[2]=6\n",
            "[[1,2],{\"a\":[3,4],\"b\":5},6]");
        Reads.to("", 'l', ".\"a\".\"b\"=1\n.\"a\".\"c\"=2\n.\"d\"=3\n", "{\"a\":{\"b\":1,\"c\":2},\"d\":3}");
        StringBuilder sixty = new StringBuilder();
        for (int i = 0; i < 60; i++) {
            sixty.append("[").append(i).append("]=0\n");
        }
        Reads.count("", 'l', sixty.toString(), 61);
        Reads.fault("", 'l', sixty + "[60", sixty.length() + 3);
        Reads.fault("", 'l', sixty + "[61", sixty.length() + 2);
        Reads.fault("", 'l', sixty + "[59", sixty.length() + 1);
        Reads.fault("", 'l', sixty + "[6]", sixty.length() + 2);
        Reads.fault("", 'l', sixty + "[060", sixty.length() + 1);
        Reads.fault("", 'l', sixty + "[600", sixty.length() + 3);
        Reads.fault("", 'l', "[]=1", 1);
        Reads.fault("", 'l', "[0=1", 2);
        Reads.fault("", 'l', "[1]=1", 1);
        Reads.fault("", 'l', "[0]=1\n[2]=1", 7);
        Reads.fault("", 'l', "[0]=1\n.\"a\"=1", 6);
        Reads.fault("", 'l', ".\"a\"=1\n[0]=1", 7);
        Reads.fault("", 'l', ".a=1", 1);
    }

    private static void lineLeaves() {
        says("any other value has one line, of what leads to it, = and the value as in 'b', with [] and {} for rows "
            + "and maps without anything, and the byte 10.");
        for (String leaf : new String[] {"null", "true", "false", "-0.50", "\"=\\n\"", "[]", "{}"}) {
            Reads.to("", 'l', "=" + leaf + "\n", leaf);
            Reads.to("", 'l', "[0]=" + leaf + "\n[1]=" + leaf + "\n", "[" + leaf + "," + leaf + "]");
            Reads.fault("", 'l', "=" + leaf + "\n=" + leaf + "\n", leaf.length() + 2);
            Reads.fault("", 'l', "=" + leaf + "x\n", leaf.length() + 1);
            Reads.fault("", 'l', "[0]=" + leaf + "[1]=" + leaf, leaf.length() + 4);
        }
        Reads.next("", 'l', "[0]=", "ntf\"-[{" + Reads.DIGITS);
        Reads.next("", 'l', "[0]=[", "]");
        Reads.next("", 'l', "[0]={", "}");
        Reads.next("", 'l', "", "[.=");
        Reads.fault("", 'l', "[0]=y", 4);
        Reads.fault("", 'l', "5", 0);
        Bench bench = new Bench();
        bench.read("[[],{},[[]],{\"a\":{}}]", 'b', 0);
        due("written", bench.write(0, 'l'), "[0]=[]\n[1]={}\n[2][0]=[]\n[3].\"a\"={}\n");
    }

    private static void lastByteOfLines() {
        says("The last byte 10 can be missing.");
        Reads.to("", 'l', "=5", "5");
        Reads.to("", 'l', "=5\n", "5");
        Reads.to("", 'l', "[0]=5\n[1]={}", "[5,{}]");
        Reads.fault("", 'l', "=5\n\n", 3);
        Reads.fault("", 'l', "[0]=5\n\n[1]=6", 6);
        Reads.fault("", 'l', "\n=5", 0);
        Reads.fault("", 'l', "[0]=5[1]=6", 5);
        Reads.fault("", 'l', "", 0);
    }

    private static void noBlanksInLines() {
        says("No blanks and comments are there.");
        String[] parts = {"", "[", "0", "]", ".", "\"a\"", "=", "1", ""};
        for (int i = 1; i < parts.length; i++) {
            StringBuilder text = new StringBuilder();
            int place = 0;
            for (int j = 0; j < parts.length; j++) {
                place = j == i ? text.length() : place;
                text.append(j == i ? " " : "").append(parts[j]);
            }
            Reads.fault("", 'l', text + "\n", place);
            Reads.fault("bc1 pc1", 'l', text.toString().replace(' ', '#') + "\n", place);
        }
        Reads.next("", 'l', "[0]=\"\"", "\n");
        Reads.next("", 'l', "[0]=\"\"\n", "[");
    }

    private static void twins() {
        says("In 'b' and 'p', twins are told by a setting: a key that its map has already is refused, or its value is "
            + "read and left out, or it takes the place of the one ahead, at that place.");
        String braces = "{\"a\":1,\"b\":2,\"a\":3,\"c\":4,\"a\":5}";
        String parens = "(:\"a\"1\"b\"2\"a\"3\"c\"4\"a\"5)";
        Reads.fault("", 'b', braces, 15);
        Reads.fault("bt0 pt2", 'b', braces, 15);
        Reads.to("bt1", 'b', braces, "{\"a\":1,\"b\":2,\"c\":4}");
        Reads.to("bt2 pt1", 'b', braces, "{\"a\":5,\"b\":2,\"c\":4}");
        Reads.fault("bt2", 'p', parens, 12);
        Reads.to("pt1 bt2", 'p', parens, "{\"a\":1,\"b\":2,\"c\":4}");
        Reads.to("pt2", 'p', parens, "{\"a\":5,\"b\":2,\"c\":4}");
        String nested = "{\"a\":{\"x\":1,\"x\":2},\"a\":{\"y\":3,\"x\":4,\"y\":5}}";
        Reads.to("bt1", 'b', nested, "{\"a\":{\"x\":1}}");
        Reads.to("bt2", 'b', nested, "{\"a\":{\"y\":5,\"x\":4}}");
        Reads.to("bt0", 'b', "{\"a\":{\"a\":{\"a\":1}},\"b\":{\"a\":1}}", "{\"a\":{\"a\":{\"a\":1}},\"b\":{\"a\":1}}");
        Reads.to("bt0", 'b', "[{\"a\":1},{\"a\":1}]", "[{\"a\":1},{\"a\":1}]");
        Reads.to("bt0", 'b', "{\"a\":1,\"A\":1,\"aa\":1,\"\":1,\"a\\n\":1,\"a \":1}",
            "{\"a\":1,\"A\":1,\"aa\":1,\"\":1,\"a\\n\":1,\"a \":1}");
        Reads.fault("bt1", 'b', "{\"a\":1,\"a\":x}", 11);
        Reads.fault("bt2", 'b', "{\"a\":1,\"a\"}", 10);
        Reads.fault("pt1", 'p', "(:\"a\"1\"a\")", 9);
        Reads.to("bt1", 'b', "{\"\":1,\"\":2}", "{\"\":1}");
        Reads.to("bt2", 'b', "{\"b\":1,\"a\":[1],\"b\":[{\"k\":2}],\"a\":{}}", "{\"b\":[{\"k\":2}],\"a\":{}}");
    }

    private static void twinsInLines() {
        says("In 'l', each value comes once, in its order; a key that its map has already, and that the line does not "
            + "go on in, is refused.");
        for (String settings : new String[] {"", "bt1 pt1", "bt2 pt2"}) {
            Reads.fault(settings, 'l', ".\"a\"=1\n.\"a\"=2\n", 10);
            Reads.fault(settings, 'l', ".\"a\"=1\n.\"b\"=2\n.\"a\"=3\n", 17);
            Reads.fault(settings, 'l', ".\"a\"={}\n.\"a\".\"b\"=1\n", 11);
            Reads.fault(settings, 'l', ".\"a\"[0]=1\n.\"b\"=2\n.\"a\"[1]=3\n", 20);
            Reads.fault(settings, 'l', "[0].\"a\"=1\n[0].\"a\"=2\n", 16);
        }
        Reads.fault("", 'l', ".\"a\"[0]=1\n.\"a\"[0]=2\n", 15);
        Reads.fault("", 'l', ".\"a\"[0]=1\n.\"a\".\"b\"=2\n", 14);
        Reads.fault("", 'l', ".\"a\"[0]=1\n.\"a\"=2\n", 14);
        Reads.fault("", 'l', "[0]=1\n[0]=1\n", 7);
        Reads.fault("", 'l', "[0][0]=1\n[0]=1\n", 12);
        Reads.fault("", 'l', "[0][0]=1\n[1]=1\n[0][1]=1\n", 16);
        Reads.fault("", 'l', "[0]=[]\n[0][0]=1\n", 8);
        Reads.fault("", 'l', "[0].\"a\"=1\n[0][0]=1\n", 13);
        Reads.fault("", 'l', "=1\n[0]=1\n", 3);
        Reads.fault("", 'l', "={}\n.\"a\"=1\n", 4);
        Reads.to("", 'l', ".\"a\".\"b\"=1\n.\"a\".\"a\"=2\n.\"b\".\"a\"=3\n",
            "{\"a\":{\"b\":1,\"a\":2},\"b\":{\"a\":3}}");
        Reads.to("", 'l', "[0].\"a\"=1\n[1].\"a\"=2\n", "[{\"a\":1},{\"a\":2}]");
    }
}
