/** All that can be asked of a mill, as a text, to hold two mills against each other; it uses the mill up. */
final class Look {
    private static final String SETTINGS = "bc be bs bt pc ps pt ls";

    private final RosettaMill mill;
    private final StringBuilder seen = new StringBuilder();

    private Look(RosettaMill mill) {
        this.mill = mill;
    }

    static String at(RosettaMill mill) {
        Look look = new Look(mill);
        for (int i = 0; i < 4; i++) {
            look.tape(i);
        }
        look.selected();
        for (int i = 0; i < 8; i++) {
            look.document(i);
        }
        look.pieces();
        look.settings();
        return look.seen.toString();
    }

    /** The first line in which two looks differ, or "the same". */
    static String apart(String one, String other) {
        String[] lines = one.split("\n");
        String[] others = other.split("\n");
        for (int i = 0; i < Math.max(lines.length, others.length); i++) {
            String line = i < lines.length ? lines[i] : "nothing";
            if (i >= others.length || !line.equals(others[i])) {
                return "line " + i + ": " + line + " instead of " + (i < others.length ? others[i] : "nothing");
            }
        }
        return "the same";
    }

    private void tell(String what, Bench.Call call) {
        seen.append(what).append(' ');
        try {
            seen.append(call.answer());
        } catch (RuntimeException e) {
            seen.append(e.getClass().getSimpleName());
        }
        seen.append('\n');
    }

    private void tape(int tape) {
        StringBuilder bytes = new StringBuilder();
        for (int i = 0; i < mill.length(tape); i++) {
            bytes.append(mill.byteAt(tape, i)).append(' ');
        }
        tell("tape", () -> bytes);
    }

    private void selected() {
        for (int i = 0; i <= 200; i++) {
            int index = i;
            tell("kind", () -> mill.kindOf(index));
            tell("size", () -> mill.sizeOf(index));
            tell("number", () -> mill.numberOf(index));
            tell("float", () -> mill.floatOf(index));
        }
    }

    // Tapes 2 and 3 have been looked at already.
    private void document(int document) {
        tell("values", () -> mill.values(document));
        tell("depth", () -> mill.depth(document));
        tell("lost", () -> mill.lost(document));
        tell("sum", () -> mill.sum(document));
        for (char dialect : "bpl".toCharArray()) {
            tell("write", () -> mill.write(document, dialect, 3));
            tape(3);
        }
        mill.clear(2);
        mill.type(2, '?', 1);
        tell("select", () -> mill.select(document, 2));
        selected();
    }

    private void pieces() {
        tell("finish", () -> mill.finish(7));
        tell("what was finished", () -> mill.sum(7));
    }

    private void settings() {
        for (String setting : SETTINGS.split(" ")) {
            tell(setting, () -> mill.set(setting.charAt(0), setting.charAt(1), 0));
        }
    }
}
