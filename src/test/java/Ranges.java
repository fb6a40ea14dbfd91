/** Holds a range of an argument: what is in it is taken, and the next ones on either side and the last ones are not. */
final class Ranges {
    interface Call {
        Object answer(RosettaMill mill, int value);
    }

    static final Class<IndexOutOfBoundsException> INDEX = IndexOutOfBoundsException.class;
    static final Class<IllegalArgumentException> ARGUMENT = IllegalArgumentException.class;
    static final Class<IllegalStateException> STATE = IllegalStateException.class;
    static final Class<java.util.NoSuchElementException> NONE = java.util.NoSuchElementException.class;
    static final Class<UnsupportedOperationException> UNSUPPORTED = UnsupportedOperationException.class;
    static final Class<ArithmeticException> ARITHMETIC = ArithmeticException.class;

    private Ranges() {
    }

    /** A mill with eight documents of a text, and with four tapes of what is a path, a key, and no text. */
    static RosettaMill mill(String text) {
        Bench bench = new Bench();
        for (int i = 0; i < 8; i++) {
            bench.readLong(text, 'b', i);
        }
        for (int i = 0; i < 4; i++) {
            bench.lay(i, "*");
        }
        return bench.mill;
    }

    static void of(String text, int lowest, int highest, Class<? extends RuntimeException> due, Call call) {
        for (int value = lowest; value <= highest; value += value + 20 < highest ? 19 : 1) {
            taken(text, value, call);
        }
        for (int value : new int[] {lowest - 1, highest + 1, Integer.MIN_VALUE, Integer.MAX_VALUE, lowest - 256,
            highest + 256, lowest + 65536}) {
            RosettaMill mill = mill(text);
            Bench.fails(Doc.told() + value, due, () -> call.answer(mill, value));
        }
    }

    static void taken(String text, int value, Call call) {
        try {
            call.answer(mill(text), value);
        } catch (RuntimeException e) {
            Bench.due(Doc.told() + value, e, "no exception");
        }
    }

    /** Of all signs, just these are taken. */
    static void ofSigns(String text, String taken, Class<? extends RuntimeException> due, Call call) {
        RosettaMill mill = mill(text);
        for (int sign = 0; sign <= 65535; sign += sign < 300 || sign > 65500 ? 1 : 97) {
            int value = sign;
            if (taken.indexOf((char) sign) >= 0) {
                taken(text, value, call);
            } else {
                Bench.fails(Doc.told() + value, due, () -> call.answer(mill, value));
            }
        }
    }

    static String write(RosettaMill mill, int document, char dialect) {
        mill.write(document, dialect, 3);
        return tape(mill, 3);
    }

    static String tape(RosettaMill mill, int tape) {
        StringBuilder text = new StringBuilder();
        for (int i = 0; i < mill.length(tape); i++) {
            text.append((char) mill.byteAt(tape, i));
        }
        return text.toString();
    }
}
