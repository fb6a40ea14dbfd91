/** Holds texts that are read, at once and in pieces, against what is due. Settings are told as "bc1 bt2". */
final class Reads {
    static final String DIGITS = "0123456789";
    static final String TWENTY = "abcdefghijklmnopqrst";
    static final String PRINTED = printed();
    private static final String BEFORE = "\"as it was\"";

    private Reads() {
    }

    /** The bytes from 32 to 126. */
    private static String printed() {
        StringBuilder bytes = new StringBuilder();
        for (char value = 32; value <= 126; value++) {
            bytes.append(value);
        }
        return bytes.toString();
    }

    static Bench bench(String settings) {
        Bench bench = new Bench();
        for (String one : settings.isEmpty() ? new String[0] : settings.split(" ")) {
            bench.mill.set(one.charAt(0), one.charAt(1), one.charAt(2) - '0');
        }
        return bench;
    }

    private static String name(String settings, char dialect, String text) {
        return Doc.told() + dialect + " " + settings + " " + text.replace("\n", "\\n");
    }

    /** A text is read to what is written so in braces. */
    static void to(String settings, char dialect, String text, String braces) {
        String what = name(settings, dialect, text);
        Bench bench = bench(settings);
        int answer = bench.read(text, dialect, 0);
        Bench.due(what, answer < 0 ? "fault at " + (-1 - answer) : bench.write(0, 'b'), braces);
        Bench.due(what, answer < 0 ? answer : bench.mill.values(0), answer);
        for (int cut : new int[] {1, text.length() / 2, text.length() - 1}) {
            bench.mill.begin(dialect);
            bench.lay(0, text.substring(0, Math.max(cut, 0)));
            Bench.due("a piece of " + what, bench.mill.piece(0), -1);
            bench.lay(0, text.substring(Math.max(cut, 0)));
            Bench.due("a piece of " + what, bench.mill.piece(0), -1);
            Bench.due("in pieces " + what, bench.mill.finish(1), answer);
            Bench.due("in pieces " + what, bench.write(1, 'b'), braces);
        }
    }

    /** A text has as many values; it can be longer than a tape. */
    static void count(String settings, char dialect, String text, int values) {
        String what = name(settings, dialect, text);
        Bench bench = bench(settings);
        Bench.due(what, bench.readLong(text, dialect, 0), values);
        Bench.due(what, bench.mill.values(0), values);
        if (text.length() <= 240) {
            Bench.due(what, bench.read(text, dialect, 1), values);
        }
    }

    /** A text has its fault at a place; it can be longer than a tape. */
    static void fault(String settings, char dialect, String text, int place) {
        String what = name(settings, dialect, text);
        Bench bench = bench(settings);
        bench.read(BEFORE, 'b', 0);
        if (text.length() <= 240) {
            Bench.due(what, bench.read(text, dialect, 0), -1 - place);
        }
        bench.mill.begin(dialect);
        for (int i = 0; i < text.length(); ) {
            // A piece ends just ahead of the fault, and the next one has just the byte at which it is.
            int many = i == place ? 1 : Math.min(240, (i < place ? Math.min(place, text.length()) : text.length()) - i);
            bench.lay(0, text.substring(i, i + many));
            i += many;
            Bench.due("up to " + i + " " + what, bench.mill.piece(0), place < i ? place : -1);
        }
        Bench.due("in pieces " + what, bench.mill.finish(0), -1 - place);
        Bench.due("the document behind " + what, bench.write(0, 'b'), BEFORE);
    }

    /** Behind the beginning of a text just these bytes can stand, of all that there are. */
    static void next(String settings, char dialect, String beginning, String allowed) {
        Bench bench = bench(settings);
        for (char value = 0; value < 256; value++) {
            bench = value % 60 == 0 ? bench(settings) : bench;
            int answer = bench.read(beginning + value, dialect, 0);
            boolean goesOn = answer >= 0 || -1 - answer == beginning.length() + 1;
            String what = name(settings, dialect, beginning) + " and the byte " + (int) value;
            Bench.due(what, goesOn, allowed.indexOf(value) >= 0);
            Bench.due(what, goesOn || -1 - answer == beginning.length(), true);
        }
    }
}
