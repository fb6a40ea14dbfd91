import java.util.ArrayList;
import java.util.List;

/**
 * Holds the faults of texts that look like chance against what a fault is: the first byte with which no text goes on.
 * Whether one does is asked of Grammar, with many ends that could follow.
 */
public final class FaultTest {
    private static final String[] BRACE_PARTS = {"[", "]", "{", "}", ",", ":", "\"", "\"a\"", "\"b\"", "1", "0", "-",
        ".", "null", "true", "false", "nu", " ", "\n", "#", "\\", "\\n", "12345678", "a", "{\"a\":", ",\"a\":", "[1,",
        "[[[[[[", "\"abcdefghijklmnopqrs", "\t"};
    private static final String[] PAREN_PARTS = {"(", ")", "(:", "\"a\"", "\"b\"", "\"", "n", "y", "f", "1", "0", "-",
        ".", " ", "\n", "#", "&1", "*1", "&2", "*2", "&", "*", "\\", "12345678", "((((((", "(:\"a\"", "a", "(1 2)",
        "&1(n n n n n n n n n)", "&1(*1*1*1*1)", "*1*1*1*1*1", "(*1", "(:\"a\" &2 *1 \"a\" &1 *2", "&1(&2*1*2"};
    private static final String[] LINE_PARTS = {"[0]", "[1]", "[2]", "[", "]", "0", "1", "=1\n", "=\"a\"\n", "=null\n",
        "=", "\n", ".\"a\"", ".\"b\"", ".", "\"", "a", "[]\n", "{}\n", "=[]\n", "[0][0]", "-", " ", "\\n",
        "[0][0][0][0][0]", "[3]"};

    public static void main(String[] args) {
        int runs = args.length > 0 ? Integer.parseInt(args[0]) : 700;
        Chance chance = new Chance(11);
        for (int i = 0; i < runs && Bench.wrong < 20; i++) {
            oneText(chance, 'b', BRACE_PARTS, settings(chance, "ce"));
            oneText(chance, 'p', PAREN_PARTS, settings(chance, "c"));
            oneText(chance, 'l', LINE_PARTS, "");
        }
        Bench.end("FaultTest");
    }

    private static String settings(Chance chance, String switches) {
        StringBuilder settings = new StringBuilder();
        for (char one : switches.toCharArray()) {
            if (chance.once(2)) {
                settings.append(one);
            }
        }
        return settings.append(chance.of(new String[] {"", "t", "T"})).toString();
    }

    private static void oneText(Chance chance, char dialect, String[] parts, String settings) {
        String text = grown(chance, dialect, parts, settings);
        Bench bench = new Bench();
        if (dialect != 'l') {
            bench.mill.set(dialect, 'c', settings.contains("c") ? 1 : 0);
            bench.mill.set(dialect, 't', settings.contains("t") ? 1 : settings.contains("T") ? 2 : 0);
        }
        if (dialect == 'b') {
            bench.mill.set('b', 'e', settings.contains("e") ? 1 : 0);
        }
        int due = fault(text, dialect, settings);
        String what = "fault with " + dialect + settings + " in " + text.replace("\n", "\\n");
        int answer = bench.read(text, dialect, 0);
        Bench.due(what, answer < 0 ? -1 - answer : -1, due);
        inPieces(chance, bench, text, dialect, answer, due, what);
    }

    private static void inPieces(Chance chance, Bench bench, String text, char dialect, int answer, int due,
            String what) {
        bench.mill.begin(dialect);
        int read = 0;
        while (read < text.length()) {
            int many = Math.min(text.length() - read, chance.below(8));
            bench.lay(0, text.substring(read, read + many));
            read += many;
            Bench.due("in pieces, " + what, bench.mill.piece(0), due >= 0 && due < read ? due : -1);
        }
        Bench.due("in pieces, " + what, bench.mill.finish(1), answer);
        if (answer >= 0) {
            Bench.due("in pieces, " + what, bench.mill.areSame(0, 1), true);
        }
    }

    /** A text whose parts mostly can follow one another. */
    private static String grown(Chance chance, char dialect, String[] parts, String settings) {
        StringBuilder text = new StringBuilder();
        int many = chance.below(17);
        for (int i = 0; i < many; i++) {
            for (int tries = 0; tries < 30; tries++) {
                String part = chance.of(parts);
                if (chance.once(60) || goesOn(text + part, dialect, settings)) {
                    text.append(part);
                    break;
                }
            }
        }
        if (chance.once(2)) {
            text.append(closers(text.toString(), dialect, settings));
        }
        return text.length() > 200 ? text.substring(0, 200) : text.toString();
    }

    private static int fault(String text, char dialect, String settings) {
        for (int i = 0; i < text.length(); i++) {
            if (!goesOn(text.substring(0, i + 1), dialect, settings)) {
                return i;
            }
        }
        return Grammar.allows(text, dialect, settings, text.length()) ? -1 : text.length();
    }

    private static boolean goesOn(String text, char dialect, String settings) {
        for (String end : ends(text, dialect, settings)) {
            if (Grammar.allows(text + end, dialect, settings, text.length())) {
                return true;
            }
        }
        return false;
    }

    private static List<String> ends(String text, char dialect, String settings) {
        List<String> ends = new ArrayList<>();
        String close = closers(text, dialect, settings);
        String[] tokens = dialect == 'l'
            ? new String[] {"", "0", "\"", "n\"", "x\"", "]", "}", "null", "ull", "ll", "l", "rue", "ue", "e", "alse", "lse",
                "se", "0]", "1]", "2]", "3]", "4]", "5]", "\"\""}
            : new String[] {"", "0", "\"", "n\"", "\n", "ull", "ll", "l", "rue", "ue", "e", "alse", "lse", "se"};
        String[] rests = dialect == 'l'
            ? new String[] {"", "=0", ".\"\"=0", "[0]=0", "[1]=0", "[2]=0", "[3]=0", "[4]=0", "[5]=0"}
            : dialect == 'b' ? new String[] {"", ":0", "0", "\"\":0"} : new String[] {"", "0", "00", "\"\"0", "\"\""};
        for (String token : tokens) {
            for (String rest : rests) {
                ends.add(token + rest + close);
            }
        }
        return ends;
    }

    private static String closers(String text, char dialect, String settings) {
        if (dialect == 'l') {
            return "";
        }
        StringBuilder open = new StringBuilder();
        boolean inText = false;
        boolean inComment = false;
        for (int i = 0; i < text.length(); i++) {
            char now = text.charAt(i);
            if (inComment) {
                inComment = now != '\n';
            } else if (inText) {
                i += now == '\\' ? 1 : 0;
                inText = now != '"';
            } else if (now == '"') {
                inText = true;
            } else if (now == '#' && settings.contains("c")) {
                inComment = true;
            } else if ("[{(".indexOf(now) >= 0) {
                open.append("]})".charAt("[{(".indexOf(now)));
            } else if ("]})".indexOf(now) >= 0 && open.length() > 0) {
                open.setLength(open.length() - 1);
            }
        }
        return open.reverse().toString();
    }
}
