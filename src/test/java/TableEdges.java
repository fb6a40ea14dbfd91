import java.math.BigDecimal;
import java.math.BigInteger;

/** Promises 21 to 32, each sentence at the edges that it names: tables, differences, merges and figures. */
final class TableEdges {
    private static final String MAPS = "[{\"a\":1}]";
    private static final String ROWS = "{\"a\":[1]}";

    private TableEdges() {
    }

    static void all() {
        columns();
        columnLimits();
        rows();
        rowLimits();
        differences();
        merge();
        mergeKeys();
        mergeConflicts();
        mergeLimits();
        areSame();
        values();
        depth();
        lost();
        sum();
        sumGoesRound();
        heldShare();
        meanDepth();
        isSound();
    }

    private static void says(int promise, String words) {
        Doc.says(promise, words);
    }

    private static void due(String what, Object got, Object due) {
        Bench.due(Doc.told() + what, got, due);
    }

    private static void fails(Class<? extends RuntimeException> due, Bench.Call call) {
        Bench.fails(Doc.told(), due, call);
    }

    private static Bench with(String... documents) {
        Bench bench = new Bench();
        for (int i = 0; i < documents.length; i++) {
            due("read " + documents[i], bench.readLong(documents[i], 'b', i) > 0, true);
        }
        return bench;
    }

    // ---- tables

    private static void turns(String text, int many, String due, boolean toColumns) {
        for (int to : new int[] {0, 1, 7}) {
            Bench bench = with(text, "\"as it was\"");
            Bench.Call call = () -> toColumns ? bench.mill.columns(0, to) : bench.mill.rows(0, to);
            if (due == null) {
                fails(Ranges.UNSUPPORTED, call);
                due("as it was", bench.write(0, 'b') + bench.write(1, 'b'), text + "\"as it was\"");
                fails(Ranges.NONE, () -> bench.mill.values(7));
            } else {
                due(text, call.answer(), many);
                due(text, bench.write(to, 'b'), due);
                due("the document stays", to == 0 ? text : bench.write(0, 'b'), text);
            }
        }
    }

    private static void columns() {
        says(21, "Turns a row of maps into a map of rows: for each key, in the order in which it comes first, a row of "
            + "the values of all maps, nothing for those that do not have it.");
        says(21, "Returns the number of keys.");
        turns("[{\"a\":1}]", 1, "{\"a\":[1]}", true);
        turns("[{\"b\":1,\"a\":2},{\"c\":3,\"a\":4}]", 3, "{\"b\":[1,null],\"a\":[2,4],\"c\":[null,3]}", true);
        turns("[{},{\"a\":null},{\"a\":{\"a\":[1]}}]", 1, "{\"a\":[null,null,{\"a\":[1]}]}", true);
        turns("[{\"\":-0.50,\"\\n\":\"\\\\\"}]", 2, "{\"\":[-0.50],\"\\n\":[\"\\\\\"]}", true);
        turns("[{\"a\":{\"b\":1}},{\"b\":{\"a\":2}}]", 2, "{\"a\":[{\"b\":1},null],\"b\":[null,{\"a\":2}]}", true);
        turns("[]", 0, "{}", true);
        turns("[{}]", 0, "{}", true);
        turns("[{},{},{}]", 0, "{}", true);
        for (String wrong : new String[] {"null", "1", "\"\"", "{}", "{\"a\":{}}", "[1]", "[null]", "[[]]", "[{},[]]",
            "[{\"a\":1},null]", "[\"a\",{}]"}) {
            turns(wrong, 0, null, true);
        }
        says(21, "- `document`: the document");
        Ranges.of(MAPS, 0, 7, Ranges.NONE, (mill, document) -> mill.columns(document, 3));
        says(21, "- `to`: the document that becomes the map, 0 to 7");
        Ranges.of(MAPS, 0, 7, Ranges.INDEX, (mill, to) -> mill.columns(3, to));
    }

    private static void columnLimits() {
        for (int more = 0; more <= 5; more++) {
            // Seven keys of 27 maps are 1 + 7 * 28 values, and what is in one of them comes with it.
            String first = "{\"a\":[" + "0,".repeat(more).replaceAll(",$", "")
                + "],\"b\":0,\"c\":0,\"d\":0,\"e\":0,\"f\":0,\"g\":0}";
            Bench bench = with("[" + first + ",{}".repeat(26) + "]", "9");
            kept(bench, () -> bench.mill.columns(0, 1), 7, 197 + more);
        }
        Bench many = with("[{\"a\":0}]", "{}");
        for (int i = 0; i < 197; i++) {
            many.put(0, "", "", 1);
        }
        due("200 values", many.mill.values(0), 200);
        due("200 values", many.mill.columns(0, 3) + " " + many.mill.values(3), "1 200");
        Bench deep = with("[{\"a\":[[[[[]]]]]}]");
        due("depth", deep.mill.depth(0), 7);
        due("depth", deep.mill.columns(0, 0) + " " + deep.mill.depth(0), "1 7");
    }

    private static void kept(Bench bench, Bench.Call call, int answer, int values) {
        if (values <= 200) {
            due(values + " values", call.answer(), answer);
            due(values + " values", bench.mill.values(1), values);
        } else {
            fails(Ranges.UNSUPPORTED, call);
            due("as it was", bench.write(1, 'b'), "9");
        }
    }

    private static void rows() {
        says(22, "Turns a map of rows, all of the same length, into a row of maps: each has the keys, in their order, "
            + "for which the value there is not nothing.");
        says(22, "Returns the number of maps, 0 without keys.");
        turns("{\"a\":[1]}", 1, "[{\"a\":1}]", false);
        turns("{\"b\":[1,null],\"a\":[2,4],\"c\":[null,3]}", 2, "[{\"b\":1,\"a\":2},{\"a\":4,\"c\":3}]", false);
        turns("{\"a\":[null,null]}", 2, "[{},{}]", false);
        turns("{\"a\":[[null]],\"b\":[{\"a\":null}]}", 1, "[{\"a\":[null],\"b\":{\"a\":null}}]", false);
        turns("{\"\":[false,\"\"],\"a\":[0,-0.00]}", 2, "[{\"\":false,\"a\":0},{\"\":\"\",\"a\":-0.00}]", false);
        turns("{}", 0, "[]", false);
        turns("{\"a\":[]}", 0, "[]", false);
        turns("{\"a\":[],\"b\":[]}", 0, "[]", false);
        for (String wrong : new String[] {"null", "1", "\"\"", "[]", "[[]]", "{\"a\":1}", "{\"a\":{}}",
            "{\"a\":[],\"b\":{}}", "{\"a\":[],\"b\":[1]}", "{\"a\":[1],\"b\":[]}", "{\"a\":[1],\"b\":[1,2]}",
            "{\"a\":[1,2],\"b\":[1],\"c\":[1,2]}", "{\"a\":[1],\"b\":null}"}) {
            turns(wrong, 0, null, false);
        }
        says(22, "- `document`: the document");
        Ranges.of(ROWS, 0, 7, Ranges.NONE, (mill, document) -> mill.rows(document, 3));
        says(22, "- `to`: the document that becomes the row, 0 to 7");
        Ranges.of(ROWS, 0, 7, Ranges.INDEX, (mill, to) -> mill.rows(3, to));
    }

    private static void rowLimits() {
        for (int maps = 98; maps <= 101; maps++) {
            for (int nothing = 0; nothing <= 2; nothing++) {
                String row = "null,".repeat(nothing) + "0,".repeat(maps - nothing);
                Bench bench = with("{\"a\":[" + row.substring(0, row.length() - 1) + "]}", "9");
                kept(bench, () -> bench.mill.rows(0, 1), maps, 1 + 2 * maps - nothing);
            }
        }
        Bench bench = with("{\"a\":[0]}", "null");
        for (int i = 0; i < 197; i++) {
            bench.put(0, ".\"a\"", "", 1);
        }
        due("200 values", bench.mill.values(0), 200);
        due("199 values", bench.mill.rows(0, 1) + " " + bench.mill.values(1), "198 200");
    }

    // ---- differences

    private static void differ(String one, String other, int places) {
        Bench bench = with(one, other);
        due(one + " and " + other, bench.mill.differences(0, 1), places);
        due(other + " and " + one, bench.mill.differences(1, 0), places);
    }

    private static void differences() {
        says(23, "Returns at how many places two documents differ: none if they are the same;");
        says(23, "Returns the number of places.");
        differ("{\"a\":[1.0,-0]}", "{\"a\":[1,0.00]}", 0);
        differ("[]", "[]", 0);
        says(23, "for two maps, the sum over all keys of either, 1 for a key that just one has;");
        differ("{}", "{\"a\":1}", 1);
        differ("{}", "{\"a\":[1,2,3]}", 1);
        differ("{\"a\":1,\"b\":2}", "{\"c\":1,\"d\":2}", 4);
        differ("{\"a\":1,\"b\":2}", "{\"b\":1,\"a\":2}", 2);
        differ("{\"a\":null}", "{}", 1);
        differ("{\"a\":{\"b\":1,\"c\":2},\"d\":3}", "{\"a\":{\"c\":3},\"e\":3}", 4);
        says(23, "for two rows of the same length, the sum over all places;");
        differ("[1,2,3]", "[1,3,2]", 2);
        differ("[[1,2],[3,4]]", "[[0,2],[0,0]]", 3);
        differ("[{\"a\":1,\"b\":2},1]", "[{\"a\":2,\"c\":2},1]", 3);
        says(23, "1 otherwise.");
        differ("[1,2,3]", "[1,2]", 1);
        differ("[]", "[1,2]", 1);
        differ("[]", "{}", 1);
        differ("[1]", "1", 1);
        differ("{\"a\":1,\"b\":2}", "[1,2]", 1);
        differ("{\"a\":[1,2]}", "{\"a\":[1,2,3]}", 1);
        differ("0", "\"\"", 1);
        differ("1", "-1", 1);
        differ("null", "false", 1);
        says(23, "- `document`: a document");
        Ranges.of(MAPS, 0, 7, Ranges.NONE, (mill, document) -> mill.differences(document, 3));
        says(23, "- `other`: another one, or the same");
        Ranges.of(MAPS, 0, 7, Ranges.NONE, (mill, document) -> mill.differences(3, document));
        Bench bench = with("[1,{\"a\":-0.0}]");
        due("itself", bench.mill.differences(0, 0), 0);
    }

    // ---- merges

    private static void merges(String from, String first, String second, int conflicts, String due) {
        for (int to : new int[] {0, 1, 2, 7}) {
            Bench bench = with(from, first, second);
            due(from + " " + first + " " + second, bench.mill.merge(0, 1, 2, to), conflicts);
            due(from + " " + first + " " + second, bench.write(to, 'b'), due);
        }
    }

    private static void merge() {
        says(24, "Merges two changes of a document. If one side is the same as what it came from, the other one is "
            + "taken, if both are the same, the first one;");
        merges("1", "1", "2", 0, "2");
        merges("1", "2", "1", 0, "2");
        merges("1", "1.0", "2", 0, "2");
        merges("1", "2", "1.00", 0, "2");
        merges("1", "2.0", "2", 0, "2.0");
        merges("1", "2", "2.0", 0, "2");
        merges("1", "1.0", "1.00", 0, "1.0");
        merges("1.0", "1", "1.0", 0, "1");
        merges("[1,2]", "[1,2]", "{\"a\":1}", 0, "{\"a\":1}");
        merges("{\"a\":1,\"b\":2}", "{\"b\":2,\"a\":1}", "{\"a\":1,\"b\":2}", 0, "{\"b\":2,\"a\":1}");
        merges("{\"a\":1,\"b\":2}", "{\"b\":2,\"a\":1}", "[]", 0, "[]");
        merges("null", "[1,2]", "[1,2.0]", 0, "[1,2]");
        says(24, "- `from`: what both came from");
        Ranges.of(MAPS, 0, 7, Ranges.NONE, (mill, document) -> mill.merge(document, 3, 4, 5));
        says(24, "- `first`: the first one");
        Ranges.of(MAPS, 0, 7, Ranges.NONE, (mill, document) -> mill.merge(3, document, 4, 5));
        says(24, "- `second`: the second one");
        Ranges.of(MAPS, 0, 7, Ranges.NONE, (mill, document) -> mill.merge(3, 4, document, 5));
        says(24, "- `to`: the document that becomes what comes of it, 0 to 7");
        Ranges.of(MAPS, 0, 7, Ranges.INDEX, (mill, to) -> mill.merge(3, 4, 5, to));
    }

    private static void mergeKeys() {
        says(24, "if all three are maps, each key is merged so, in the order of the first one's keys, then those that "
            + "just the second one has, one that is not there counting as unlike all that is there, and merged to "
            + "that, is not there;");
        merges("{}", "{\"a\":1}", "{\"b\":2}", 0, "{\"a\":1,\"b\":2}");
        merges("{}", "{\"b\":1,\"a\":2}", "{\"d\":3,\"c\":4}", 0, "{\"b\":1,\"a\":2,\"d\":3,\"c\":4}");
        merges("{\"a\":1,\"b\":2}", "{\"b\":2,\"a\":3}", "{\"c\":5,\"a\":1,\"b\":4}", 0, "{\"b\":4,\"a\":3,\"c\":5}");
        merges("{\"a\":1,\"b\":2,\"c\":3}", "{\"a\":1,\"b\":2}", "{\"b\":2,\"c\":3}", 0, "{\"b\":2}");
        merges("{\"a\":1,\"b\":2}", "{\"b\":3}", "{\"b\":2}", 0, "{\"b\":3}");
        merges("{\"a\":1,\"b\":2}", "{\"a\":1}", "{\"a\":3,\"b\":2}", 0, "{\"a\":3}");
        merges("{\"a\":1}", "{}", "{\"b\":2}", 0, "{\"b\":2}");
        merges("{\"a\":1}", "{\"b\":2}", "{}", 0, "{\"b\":2}");
        merges("{\"a\":1,\"x\":0}", "{\"x\":0,\"b\":2}", "{\"x\":1}", 0, "{\"x\":1,\"b\":2}");
        merges("{\"a\":null}", "{\"b\":1}", "{\"c\":1,\"a\":null}", 0, "{\"b\":1,\"c\":1}");
        merges("{}", "{\"a\":null}", "{\"b\":null}", 0, "{\"a\":null,\"b\":null}");
        merges("{}", "{\"a\":1.0,\"x\":1}", "{\"y\":1,\"a\":1}", 0, "{\"a\":1.0,\"x\":1,\"y\":1}");
        merges("{\"a\":{\"b\":{\"c\":1,\"d\":2}}}", "{\"a\":{\"b\":{\"d\":3,\"c\":1}}}",
            "{\"a\":{\"b\":{\"c\":4,\"d\":2}}}", 0, "{\"a\":{\"b\":{\"d\":3,\"c\":4}}}");
    }

    private static void mergeConflicts() {
        says(24, "otherwise there is a conflict, and the first one is taken.");
        says(24, "Returns the number of conflicts.");
        merges("1", "2", "3", 1, "2");
        merges("[1,2]", "[3,2]", "[1,4]", 1, "[3,2]");
        merges("[]", "{\"a\":1}", "{\"b\":1}", 1, "{\"a\":1}");
        merges("{}", "{\"a\":1}", "[1]", 1, "{\"a\":1}");
        merges("{}", "[1]", "{\"a\":1}", 1, "[1]");
        merges("{\"a\":1,\"b\":1}", "{\"a\":2,\"b\":2}", "{\"a\":3,\"b\":3}", 2, "{\"a\":2,\"b\":2}");
        merges("{\"a\":1}", "{}", "{\"a\":2}", 1, "{}");
        merges("{\"a\":1}", "{\"a\":2}", "{}", 1, "{\"a\":2}");
        merges("{\"a\":null}", "{\"a\":1}", "{}", 1, "{\"a\":1}");
        merges("{}", "{\"a\":1}", "{\"a\":2}", 1, "{\"a\":1}");
        merges("{}", "{\"a\":{\"b\":1}}", "{\"a\":{\"c\":1}}", 1, "{\"a\":{\"b\":1}}");
        merges("{\"a\":{}}", "{\"a\":{\"b\":1}}", "{\"a\":{\"c\":1}}", 0, "{\"a\":{\"b\":1,\"c\":1}}");
        merges("{\"a\":{\"x\":1}}", "{\"b\":1}", "{\"a\":{\"x\":2},\"b\":2}", 2, "{\"b\":1}");
    }

    private static void mergeLimits() {
        for (int first = 99; first <= 101; first++) {
            for (int second = 98; second <= 100; second++) {
                Bench bench = with("{}", "9", "{\"a\":[" + "0,".repeat(first - 3) + "0]}", "{\"b\":["
                    + "0,".repeat(second - 2) + "0]}");
                due("values", bench.mill.values(2) + " " + bench.mill.values(3), first + " " + (second + 1));
                kept(bench, () -> bench.mill.merge(0, 2, 3, 1), 0, first + second);
            }
        }
        String deep = "{\"a\":{\"a\":{\"a\":{\"a\":{\"a\":{\"a\":{\"a\":0}}}}}}}";
        Bench bench = with(deep, deep.replace("0", "1,\"b\":2"), deep.replace("0", "2,\"c\":3"));
        due("deep", bench.mill.merge(0, 1, 2, 3), 1);
        due("deep", bench.write(3, 'b'), deep.replace("0", "1,\"b\":2,\"c\":3"));
    }

    private static void areSame() {
        says(25, "Returns whether two documents are the same.");
        says(25, "Returns whether they are.");
        Bench bench = with("[1]", "[1.0]", "[2]");
        due("same", bench.mill.areSame(0, 1), true);
        due("not", bench.mill.areSame(0, 2), false);
        says(25, "- `document`: a document");
        Ranges.of(MAPS, 0, 7, Ranges.NONE, (mill, document) -> mill.areSame(document, 3));
        says(25, "- `other`: another one, or the same");
        Ranges.of(MAPS, 0, 7, Ranges.NONE, (mill, document) -> mill.areSame(3, document));
        due("itself", bench.mill.areSame(2, 2), true);
    }

    // ---- figures

    private static void values() {
        says(26, "Returns how many values a document has.");
        says(26, "Returns the number of values.");
        Bench bench = with("null", "{}", "{\"a\":[1,{}]}", "[" + "0,".repeat(198) + "0]");
        int[] values = {1, 1, 4, 200};
        for (int i = 0; i < values.length; i++) {
            due("document " + i, bench.mill.values(i), values[i]);
        }
        says(26, "- `document`: the document");
        Ranges.of(MAPS, 0, 7, Ranges.NONE, (mill, document) -> mill.values(document));
    }

    private static void depth() {
        says(27, "Returns the depth of a document.");
        says(27, "Returns the depth.");
        for (int depth = 1; depth <= 8; depth++) {
            String row = "[".repeat(depth) + "]".repeat(depth);
            Bench bench = with(row, "[0," + row.substring(1, row.length() - 1) + (depth > 1 ? ",0]" : "0]"));
            due("depth", bench.mill.depth(0), depth);
            due("depth", bench.mill.depth(1), Math.max(depth, 2));
        }
        says(27, "- `document`: the document");
        Ranges.of(MAPS, 0, 7, Ranges.NONE, (mill, document) -> mill.depth(document));
    }

    private static boolean isLost(int number, int behind) {
        BigDecimal exact = BigDecimal.valueOf(number, behind);
        return exact.compareTo(new BigDecimal(exact.floatValue())) != 0;
    }

    private static void lost() {
        says(28, "Returns how many numbers of a document are not just the same as some float.");
        says(28, "Returns the number of numbers.");
        int[] numbers = {0, 1, 2, 3, 5, 7, 10, 15, 25, 50, 75, 125, 375, 625, 1000, 1875, 3125, 6250, 9375, 10000,
            15625, 16777215, 16777216, 16777217, 16777218, 33554431, 33554432, 33554433, 33554434, 33554435, 33554436,
            67108860, 67108862, 67108864, 83886075, 83886080, 83886085, 167772150, 167772160, 167772165, 167772170,
            104857600, 104857625, 268435440, 268435455, 536870880, 536870896, 999999936, 999999999, 999999872,
            524288000, 655359375, 655360625};
        for (int number : numbers) {
            for (int behind = 0; behind <= 4; behind++) {
                String text = BigDecimal.valueOf(number, behind).toPlainString();
                Bench bench = with(text, "-" + text);
                due(text, bench.mill.lost(0), isLost(number, behind) ? 1 : 0);
                due("-" + text, bench.mill.lost(1), isLost(number, behind) ? 1 : 0);
            }
        }
        Bench bench = with("[0.1,0.5,{\"a\":0.2,\"b\":[0.3]},\"0.1\",0.1,16777217,16777216]", "[]", "0.1");
        due("of all in it", bench.mill.lost(0), 5);
        due("without any", bench.mill.lost(1), 0);
        due("itself", bench.mill.lost(2), 1);
        says(28, "- `document`: the document");
        Ranges.of(MAPS, 0, 7, Ranges.NONE, (mill, document) -> mill.lost(document));
    }

    private static long sumOf(String text) {
        BigInteger sum = BigInteger.valueOf(7);
        for (int i = 0; i < text.length(); i++) {
            sum = sum.multiply(BigInteger.valueOf(31)).add(BigInteger.valueOf(text.charAt(i)));
        }
        // longValue() keeps the lowest 64 bits, as longs that go round do.
        return sum.longValue();
    }

    private static void sums(String text, String written) {
        Bench bench = with(text);
        due(text, bench.mill.sum(0), sumOf(written));
    }

    private static void sum() {
        says(29, "Returns a sum that is the same for documents that are the same.");
        Bench bench = with("{\"b\":-0.0,\"a\":[1.50,{\"d\":2.0,\"c\":3}]}",
            "{\"a\":[1.5,{\"c\":3.000,\"d\":2}],\"b\":0}");
        due("same", bench.mill.sum(0), bench.mill.sum(1));
        bench.mill.set('b', 's', 1);
        due("as it was", bench.mill.sum(0), bench.mill.sum(1));
        says(29, "- `document`: the document");
        Ranges.of(MAPS, 0, 7, Ranges.NONE, (mill, document) -> (int) mill.sum(document));
        says(29, "Returns 7 at first, then 31 times itself plus each byte of the document in 'b', by rising keys, "
            + "numbers without zeros at the end behind the point, or the point then, and without a - at 0, as longs go "
            + "round.");
        String[] numbers = {"0", "-0", "0.0000", "-0.00", "1.0", "10", "100.00", "-1.50", "0.0500", "0.5", "-0.0001",
            "120.0300", "999999999", "99999.0000"};
        String[] written = {"0", "0", "0", "0", "1", "10", "100", "-1.5", "0.05", "0.5", "-0.0001", "120.03",
            "999999999", "99999"};
        for (int i = 0; i < numbers.length; i++) {
            sums(numbers[i], written[i]);
        }
        sums("null", "null");
        sums("[]", "[]");
        sums("\"\\n\\\"\\\\~ \"", "\"\\n\\\"\\\\~ \"");
        sums("{\"b\":1,\"a\\n\":2,\"a\":3,\"\":4,\"aa\":5}", "{\"\":4,\"a\":3,\"a\\n\":2,\"aa\":5,\"b\":1}");
    }

    private static void sumGoesRound() {
        for (int length = 0; length <= 20; length++) {
            String text = "\"" + "~".repeat(length) + "\"";
            sums(text, text);
        }
        String text = "[" + "\"~~~~~~~~~~~~~~~~~~~~\",".repeat(18) + "0]";
        sums(text, text);
        Bench full = with("[\"~~~~~~~~~~~~~~~~~~~~\"]", "\"~~~~~~~~~~~~~~~~~~~~\"");
        for (int i = 1; i < 199; i++) {
            full.put(0, "", "", 1);
        }
        due("4578 bytes", full.mill.sum(0), sumOf("[" + "\"~~~~~~~~~~~~~~~~~~~~\",".repeat(198)
            + "\"~~~~~~~~~~~~~~~~~~~~\"]"));
    }

    private static void heldShare() {
        says(30, "Returns the share of the values of all documents that are rows or maps.");
        says(30, "Returns their number divided by that of all values, both converted to float.");
        String[] texts = {"1", "[]", "{}", "[1]", "{\"a\":1,\"b\":[]}", "[" + "0,".repeat(198) + "0]", "\"[]\"",
            "null"};
        int[] held = {0, 1, 1, 1, 2, 1, 0, 0};
        int[] values = {1, 1, 1, 2, 3, 200, 1, 1};
        Bench bench = new Bench();
        int allHeld = 0;
        int all = 0;
        for (int i = 0; i < 8; i++) {
            bench.readLong(texts[i], 'b', i);
            allHeld += held[i];
            all += values[i];
            due("up to " + i, bench.mill.heldShare(), (float) allHeld / (float) all);
            due("just " + i, with(texts[i]).mill.heldShare(), (float) held[i] / (float) values[i]);
        }
    }

    private static void meanDepth() {
        says(31, "Returns the mean depth of all documents.");
        says(31, "Returns the sum divided by the number of documents, both converted to double.");
        int[] depths = {1, 8, 2, 2, 5, 3, 7, 6};
        Bench bench = new Bench();
        int sum = 0;
        for (int i = 0; i < 8; i++) {
            bench.read("[".repeat(depths[i]) + "]".repeat(depths[i]), 'b', 7 - i);
            sum += depths[i];
            due("up to " + i, bench.mill.meanDepth(), (double) sum / (double) (i + 1));
        }
        bench.read("0", 'b', 6);
        due("in place of 8", bench.mill.meanDepth(), (sum - 7.0) / 8.0);
    }

    private static void isSound() {
        says(32, "Checks whether each document, written in each dialect and read again, is the same with the same "
            + "notations, and is the same if read in two halves.");
        says(32, "Returns whether this holds.");
        due("without documents", new RosettaMill().isSound(), true);
        String longest = "\"" + "\\\"".repeat(20) + "\"";
        String[] texts = {"null", "[]", "{}", "[0,-0,0.0,-0.0000,-1.50,999999999,0.0001]", "[" + "0,".repeat(198)
            + "0]", "[[[[[[[[]]]]]]]]", "{\"#\":\"# \\n\",\"\":{\"\":[{}]},\"a\":true,\"A\":false}", longest};
        Bench bench = with(texts);
        for (String setting : "bc1 be1 bs1 bt1 pc1 ps1 pt1 ls1 bt2 pt2 bs0 ps0".split(" ")) {
            bench.mill.set(setting.charAt(0), setting.charAt(1), setting.charAt(2) - '0');
            due(setting, bench.mill.isSound(), true);
        }
        longestLines(longest);
    }

    /** Seven steps of the longest keys lead to each of the longest texts: no document is longer in lines. */
    private static void longestLines(String longest) {
        Bench bench = with(longest, "{}");
        for (int i = 0; i < 193; i++) {
            String bits = Integer.toBinaryString(1 << 20 | i).substring(1);
            bench.put(1, "", bits.replace('0', '"').replace('1', '\\'), 0);
        }
        for (int i = 0; i < 6; i++) {
            bench.read("{}", 'b', 2);
            bench.put(2, "", "\"".repeat(20), 1);
            bench.mill.merge(2, 2, 2, 1);
        }
        due("values", bench.mill.values(1), 200);
        due("depth", bench.mill.depth(1), 8);
        due("200 values in the longest lines", bench.mill.isSound(), true);
    }
}
