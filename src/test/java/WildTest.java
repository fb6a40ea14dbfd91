import java.util.NoSuchElementException;
import java.util.Set;

/** Runs of 512 calls with any arguments: a call throws what the document lists for it, and nothing changes then. */
public final class WildTest {
    private static final String INDEX = "IndexOutOfBoundsException";
    private static final String NONE = "NoSuchElementException";
    private static final String ARGUMENT = "IllegalArgumentException";
    private static final String STATE = "IllegalStateException";
    private static final String UNSUPPORTED = "UnsupportedOperationException";
    private static final String ARITHMETIC = "ArithmeticException";
    private static final Integer[] NUMBERS = {-1000, -999, -1, 0, 0, 1, 1, 2, 3, 4, 5, 7, 8, 9, 199, 200, 201, 240, 999,
        1000, Integer.MAX_VALUE, Integer.MIN_VALUE};
    private static final Character[] SIGNS = {'b', 'b', 'p', 'p', 'l', 'l', 'x', 'c', 'e', 's', 't', '+', '*', '-',
        '\0', '\uffff'};
    private static final String[] PARTS = {"[", "]", "{", "}", ",", ":", "\"a\"", "\"b\"", "1", "-0.50", "null", "n",
        "(", ")", "(:", "&1", "*1", "*", "?", ".\"a\"", "[0]", "=1\n", " ", "#", "[[[[[[[[", "((((", "999999999",
        "{\"a\":1}", "[1,[2],{\"a\":[3]}]", "(:\"a\" (1 2))", "[0]=1\n[1]=2\n", "\u00ff", "\\", "\n"};

    private final Chance chance;
    private final Bench bench = new Bench();
    private final RosettaMill mill = bench.mill;

    private WildTest(long seed) {
        chance = new Chance(seed);
    }

    public static void main(String[] args) {
        int runs = args.length > 0 ? Integer.parseInt(args[0]) : 1500;
        for (int i = 0; i < runs && Bench.wrong < 20; i++) {
            new WildTest(i * 104729L + 1).run();
        }
        Bench.end("WildTest");
    }

    private void run() {
        for (int i = 0; i < 512; i++) {
            oneCall();
        }
    }

    private int document() {
        return chance.once(12) ? chance.of(NUMBERS) : chance.below(8);
    }

    private int tape() {
        return chance.once(12) ? chance.of(NUMBERS) : chance.below(4);
    }

    private char sign() {
        return chance.of(SIGNS);
    }

    private int number() {
        return chance.of(NUMBERS);
    }

    private void oneCall() {
        int one = document();
        int other = document();
        int third = document();
        int to = document();
        int tape = tape();
        int key = tape();
        char sign = sign();
        char what = sign();
        int number = number();
        switch (chance.below(34)) {
            case 0:
            case 1:
            case 2:
                bench.lay(chance.below(4), text());
                break;
            case 3:
                call("type", () -> mill.type(tape, number, other), INDEX, ARGUMENT, STATE);
                break;
            case 4:
                call("clear", () -> mill.clear(tape), INDEX);
                break;
            case 5:
                call("length", () -> mill.length(tape), INDEX);
                call("byteAt", () -> mill.byteAt(tape, number), INDEX);
                break;
            case 6:
                call("set", () -> mill.set(sign, what, number), ARGUMENT, STATE);
                break;
            case 7:
            case 8:
            case 9:
            case 10:
                call("read", () -> mill.read(tape, sign, one), INDEX, ARGUMENT);
                break;
            case 11:
                call("begin", () -> mill.begin(sign), ARGUMENT);
                break;
            case 12:
            case 13:
                call("piece", () -> mill.piece(tape), INDEX, STATE);
                break;
            case 14:
                call("finish", () -> mill.finish(one), INDEX, STATE);
                break;
            case 15:
            case 16:
                call("write", () -> mill.write(one, sign, tape), INDEX, NONE, ARGUMENT, UNSUPPORTED);
                break;
            case 17:
                call("select", () -> mill.select(one, tape), INDEX, NONE);
                break;
            case 18:
                call("kindOf", () -> mill.kindOf(number), INDEX);
                call("sizeOf", () -> mill.sizeOf(number), INDEX);
                call("numberOf", () -> mill.numberOf(number), INDEX, NONE);
                call("floatOf", () -> mill.floatOf(number), INDEX, NONE);
                break;
            case 19:
            case 20:
                call("replace", () -> mill.replace(one, tape, other), INDEX, NONE, UNSUPPORTED);
                break;
            case 21:
                call("remove", () -> mill.remove(one, tape), INDEX, NONE);
                break;
            case 22:
            case 23:
                call("put", () -> mill.put(one, tape, key, other), INDEX, NONE, ARGUMENT, UNSUPPORTED);
                break;
            case 24:
            case 25:
                call("change", () -> mill.change(one, tape, what, number), INDEX, NONE, ARGUMENT, ARITHMETIC);
                break;
            case 26:
                call("columns", () -> mill.columns(one, to), INDEX, NONE, UNSUPPORTED);
                break;
            case 27:
                call("rows", () -> mill.rows(one, to), INDEX, NONE, UNSUPPORTED);
                break;
            case 28:
                call("differences", () -> mill.differences(one, other), NONE);
                call("areSame", () -> mill.areSame(one, other), NONE);
                break;
            case 29:
            case 30:
                call("merge", () -> mill.merge(one, other, third, to), INDEX, NONE, UNSUPPORTED);
                break;
            case 31:
                call("values", () -> mill.values(one), NONE);
                call("depth", () -> mill.depth(one), NONE);
                call("lost", () -> mill.lost(one), NONE);
                break;
            case 32:
                call("heldShare", () -> mill.heldShare(), ARITHMETIC);
                call("meanDepth", () -> mill.meanDepth(), ARITHMETIC);
                break;
            default:
                Bench.due("isSound", mill.isSound(), true);
                break;
        }
    }

    private String text() {
        StringBuilder text = new StringBuilder();
        for (int many = chance.below(6); many >= 0; many--) {
            text.append(chance.of(PARTS));
        }
        return text.toString();
    }

    private void call(String name, Bench.Call call, String... due) {
        String before = state();
        try {
            call.answer();
        } catch (RuntimeException e) {
            if (!Set.of(due).contains(e.getClass().getSimpleName())) {
                Bench.due(name, e, String.join(" or ", due));
            }
            Bench.due(name + " threw, and what is", state(), before);
        }
    }

    private String state() {
        StringBuilder state = new StringBuilder();
        for (int i = 0; i < 4; i++) {
            state.append(bench.tape(i)).append('|');
        }
        for (int i = 0; i < 8; i++) {
            try {
                state.append(mill.sum(i)).append(' ').append(mill.values(i)).append('|');
            } catch (NoSuchElementException e) {
                state.append('|');
            }
        }
        return state.toString();
    }
}
