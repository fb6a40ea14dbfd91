import java.util.ArrayList;
import java.util.Arrays;
import java.util.List;
import java.util.NoSuchElementException;

/** Holds runs of calls that look like chance against trees of objects. */
public final class ModelTest {
    private static final int LAST = 7;

    private final Chance chance;
    private final Bench bench = new Bench();
    private final RosettaMill mill = bench.mill;
    private final Node[] model = new Node[8];
    private final boolean[] rising = new boolean[3];

    private ModelTest(long seed) {
        chance = new Chance(seed);
    }

    public static void main(String[] args) {
        int runs = args.length > 0 ? Integer.parseInt(args[0]) : 2500;
        for (int i = 0; i < runs && Bench.wrong < 20; i++) {
            new ModelTest(i * 7919L + 3).run();
        }
        Bench.end("ModelTest");
    }

    private void run() {
        for (int i = 0; i < 3; i++) {
            readNew(i);
        }
        for (int i = 0; i < 60; i++) {
            step();
        }
        Bench.due("isSound", mill.isSound(), true);
    }

    private void readNew(int document) {
        Node node = Node.random(chance, 1, 4);
        String text = node.braces(false, false);
        if (text.length() <= 240 && node.fits()) {
            Bench.due("read " + text, bench.read(text, 'b', document), node.values());
            model[document] = node;
            check(document);
        }
    }

    private void step() {
        int document = chance.below(LAST);
        int other = chance.below(LAST);
        int third = chance.below(LAST);
        int to = chance.below(LAST);
        if (model[document] == null || model[other] == null || model[third] == null) {
            missing(document);
            return;
        }
        switch (chance.below(14)) {
            case 0:
                readNew(document);
                break;
            case 1:
                select(document, path());
                break;
            case 2:
                edit("replace", document, path(), other);
                break;
            case 3:
                edit("remove", document, path(), other);
                break;
            case 4:
                edit("put", document, path(), other);
                break;
            case 5:
            case 6:
                change(document, path());
                break;
            case 7:
                keep("columns", to, model[document].columns(), -1, () -> mill.columns(document, to));
                break;
            case 8:
                keep("rows", to, model[document].rows(), -1, () -> mill.rows(document, to));
                break;
            case 9:
            case 10:
                int[] conflicts = {0};
                Node merged = Node.merge(model[document], model[other], model[third], conflicts);
                keep("merge", to, merged, conflicts[0], () -> mill.merge(document, other, third, to));
                break;
            case 11:
                Bench.due("differences", mill.differences(document, other), model[document].differences(model[other]));
                Bench.due("areSame", mill.areSame(document, other), model[document].same(model[other]));
                break;
            case 12:
                figures();
                break;
            default:
                int dialect = chance.below(3);
                Bench.due("set", mill.set("bpl".charAt(dialect), 's', rising[dialect] ? 0 : 1), rising[dialect] ? 1 : 0);
                rising[dialect] = !rising[dialect];
                break;
        }
    }

    private void missing(int document) {
        if (model[document] == null) {
            Bench.fails("values", NoSuchElementException.class, () -> mill.values(document));
            readNew(document);
        }
    }

    private List<String> path() {
        List<String> path = new ArrayList<>();
        for (int many = chance.below(4); many > 0; many--) {
            path.add(chance.of(new String[] {"*", "*", "?", ".a", ".b", ".c", ".", ".\n", "[0", "[1", "[3"}));
        }
        return path;
    }

    private static String written(List<String> path) {
        StringBuilder text = new StringBuilder();
        for (String step : path) {
            text.append(step.startsWith(".") ? "." + Node.quoted(step.substring(1))
                : step.startsWith("[") ? step + "]" : step);
        }
        return text.toString();
    }

    /** Looks at what a document is, by writing it and reading it again into the last document. */
    private void check(int document) {
        Node node = model[document];
        String[] due = {node.braces(rising[0], false), node.parens(rising[1]), node.lines(rising[2], "")};
        for (int i = 0; i < 3; i++) {
            char dialect = "bpl".charAt(i);
            if (due[i].length() > 240) {
                Bench.fails("write", UnsupportedOperationException.class, () -> bench.write(document, dialect));
            } else {
                Bench.due("write " + dialect, bench.write(document, dialect), due[i]);
                Bench.due("read " + due[i], mill.read(3, dialect, LAST), node.values());
                Bench.due("areSame " + due[i], mill.areSame(document, LAST), true);
                model[LAST] = node.copy();
            }
        }
        Bench.due("sum of " + due[0], mill.sum(document), sum(node.braces(true, true)));
    }

    private static long sum(String text) {
        long sum = 7;
        for (char now : text.toCharArray()) {
            sum = 31 * sum + now;
        }
        return sum;
    }

    private void select(int document, List<String> path) {
        List<Node> due = new ArrayList<>(model[document].select(path));
        Bench.due("select " + path, bench.select(document, written(path)), due.size());
        for (int i = 0; i < due.size(); i++) {
            Node node = due.get(i);
            int index = i;
            Bench.due("kindOf", mill.kindOf(i), node.kind);
            Bench.due("sizeOf", mill.sizeOf(i), node.size());
            if (node.kind == 'n') {
                Bench.due("numberOf", mill.numberOf(i), node.number.unscaledValue().intValue());
                float due1 = (float) (node.number.unscaledValue().doubleValue() / Math.pow(10, node.number.scale()));
                Bench.due("floatOf " + node.number, mill.floatOf(i), Float.floatToIntBits(node.minus ? -0.0f : due1));
            } else {
                Bench.fails("numberOf", NoSuchElementException.class, () -> mill.numberOf(index));
            }
        }
        Bench.fails("kindOf", IndexOutOfBoundsException.class, () -> mill.kindOf(due.size()));
    }

    private void edit(String what, int document, List<String> path, int by) {
        String key = chance.of(new String[] {"a", "b", "", "new"});
        Node changed = model[document].copy();
        int due = what.equals("replace") ? changed.replace(path, model[by])
            : what.equals("remove") ? changed.remove(path) : changed.put(path, key, model[by]);
        String text = written(path);
        keep(what + " " + text, document, changed, due, () -> what.equals("replace") ? bench.replace(document, text, by)
            : what.equals("remove") ? bench.remove(document, text) : bench.put(document, text, key, by));
    }

    private void change(int document, List<String> path) {
        char op = chance.of(new Character[] {'+', '*', 'c', '-'});
        int number = op == 'c' ? chance.below(5) : chance.of(new Integer[] {-999, -10, -1, 0, 1, 2, 5, 999});
        Node changed = model[document].copy();
        try {
            int due = changed.change(path, op, number);
            Bench.due("change " + path + op + number, bench.change(document, written(path), op, number), due);
            model[document] = changed;
        } catch (Node.TooMuch e) {
            Bench.fails("change", ArithmeticException.class, () -> bench.change(document, written(path), op, number));
        }
        check(document);
    }

    private void keep(String what, int to, Node due, int answer, Bench.Call call) {
        if (due == null || !due.fits()) {
            Bench.fails(what, UnsupportedOperationException.class, call);
            return;
        }
        Object got = call.answer();
        Bench.due(what, got, answer >= 0 ? answer : due.kind == 'm' ? due.pairs.size() : due.items.size());
        model[to] = due;
        check(to);
    }

    private void figures() {
        int values = 0;
        int holders = 0;
        int depths = 0;
        for (int i = 0; i < 8; i++) {
            if (model[i] != null) {
                Bench.due("values", mill.values(i), model[i].values());
                Bench.due("depth", mill.depth(i), model[i].depth());
                Bench.due("lost", mill.lost(i), model[i].lost());
                values += model[i].values();
                holders += model[i].holders();
                depths += model[i].depth();
            }
        }
        Bench.due("heldShare", mill.heldShare(), (float) holders / values);
        double documents = Arrays.stream(model).filter(node -> node != null).count();
        Bench.due("meanDepth", mill.meanDepth(), depths / documents);
    }
}
