import java.util.ArrayList;
import java.util.HashMap;
import java.util.LinkedHashMap;
import java.util.List;
import java.util.Map;
import java.util.regex.Matcher;
import java.util.regex.Pattern;

/**
 * Tells whether a whole text is one of a dialect. What a byte tells (a twin, a name, a value too many or too deep) is
 * held against the text only if this byte is ahead of a place: so texts that only begin as a given one can be asked for.
 * Of the settings, c is comments, e a last comma, t twins left out, and T twins in the place of the one ahead.
 */
final class Grammar {
    static final int MOST = 200;
    static final int DEEPEST = 8;
    private static final Pattern NUMBER = Pattern.compile("-?(0|[1-9][0-9]*)(\\.[0-9]{1,4})?");
    private static final Pattern TEXT = Pattern.compile("\"((?:[ !#-\\[\\]-~]|\\\\[\"\\\\n]){0,20})\"");

    private static final class No extends RuntimeException {
        private static final long serialVersionUID = 1;

        No() {
            super(null, null, false, false);
        }
    }

    private final String text;
    private final char dialect;
    private final boolean comments;
    private final boolean commas;
    private final boolean refused;
    private final boolean keepsFirst;
    private final int known;
    private final Map<Character, int[]> names = new HashMap<>();
    private final List<Integer> ends = new ArrayList<>();
    private int at;
    private int many;

    private Grammar(String text, char dialect, String settings, int known) {
        this.text = text;
        this.dialect = dialect;
        this.comments = settings.contains("c");
        this.commas = settings.contains("e");
        this.refused = !settings.contains("t") && !settings.contains("T");
        this.keepsFirst = settings.contains("t");
        this.known = known;
    }

    static boolean allows(String text, char dialect, String settings, int known) {
        Grammar grammar = new Grammar(text, dialect, settings, known);
        try {
            if (dialect == 'l') {
                grammar.lines();
            } else {
                grammar.blanks();
                grammar.value(1);
                grammar.blanks();
                grammar.want(grammar.at == text.length());
            }
            return true;
        } catch (No e) {
            return false;
        }
    }

    private void want(boolean holds) {
        if (!holds) {
            throw new No();
        }
    }

    private boolean takes(String what) {
        if (text.startsWith(what, at)) {
            at += what.length();
            return true;
        }
        return false;
    }

    private String takes(Pattern what) {
        Matcher matcher = what.matcher(text).region(at, text.length());
        want(matcher.lookingAt());
        at = matcher.end();
        return matcher.group();
    }

    private void blanks() {
        Pattern blanks = Pattern.compile(comments ? "([ \\n]|#[^\\n]*(\\n|$))*" : "[ \\n]*");
        takes(blanks);
    }

    private void count(int place, int level, int values, int depth) {
        many += values;
        want(place >= known || many <= MOST && level + depth - 1 <= DEEPEST);
    }

    private void number() {
        String number = takes(NUMBER);
        want(number.replaceAll("[-.]", "").length() <= 9);
    }

    private void scalar() {
        if (takes("null") || takes("true") || takes("false")) {
            return;
        }
        if (text.startsWith("\"", at)) {
            takes(TEXT);
        } else {
            number();
        }
    }

    private String key(Map<String, Object> keys) {
        String key = takes(TEXT);
        want(!(refused && keys.containsKey(key) && at - 1 < known));
        return key;
    }

    /** Returns how many values there are, without those that are left out, and how deep they are. */
    private int[] value(int level) {
        return dialect == 'b' ? braces(level) : parens(level);
    }

    private int[] braces(int level) {
        count(at, level, 1, 1);
        if (!takes("[") && !takes("{")) {
            scalar();
            return new int[] {1, 1};
        }
        boolean map = text.charAt(at - 1) == '{';
        String close = map ? "}" : "]";
        Map<String, Object> keys = new HashMap<>();
        blanks();
        if (takes(close)) {
            return new int[] {1, 1};
        }
        while (true) {
            if (map) {
                keys.put(key(keys), keys);
                blanks();
                want(takes(":"));
                blanks();
            }
            value(level + 1);
            blanks();
            if (takes(close)) {
                return new int[] {1, 1};
            }
            want(takes(","));
            blanks();
            if (commas && takes(close)) {
                return new int[] {1, 1};
            }
        }
    }

    private int[] parens(int level) {
        List<Character> given = new ArrayList<>();
        while (takes("&")) {
            want(at < text.length() && Character.isDigit(text.charAt(at)));
            given.add(text.charAt(at++));
            blanks();
        }
        int[] size = takes("*") ? again(level) : plainParens(level);
        for (char name : given) {
            names.put(name, size);
        }
        return size;
    }

    private int[] again(int level) {
        want(at < text.length() && text.charAt(at) >= '0' && text.charAt(at) <= '9');
        int[] size = names.get(text.charAt(at));
        want(size != null || at >= known);
        size = size == null ? new int[] {1, 1} : size;
        count(at, level, size[0], size[1]);
        at++;
        return size;
    }

    private int[] plainParens(int level) {
        count(at, level, 1, 1);
        if (takes("(")) {
            return takes(":") ? pairs(level) : items(level);
        }
        if (text.startsWith("\"", at)) {
            takes(TEXT);
            return new int[] {1, 1};
        }
        want(!ends.contains(at));
        if (!takes("n") && !takes("y") && !takes("f")) {
            number();
        }
        ends.add(at);
        return new int[] {1, 1};
    }

    private int[] items(int level) {
        int[] size = {1, 1};
        for (blanks(); !takes(")"); blanks()) {
            int[] its = value(level + 1);
            size[0] += its[0];
            size[1] = Math.max(size[1], its[1] + 1);
        }
        return size;
    }

    private int[] pairs(int level) {
        Map<String, Object> sizes = new LinkedHashMap<>();
        for (blanks(); !takes(")"); blanks()) {
            String key = key(sizes);
            blanks();
            int[] its = value(level + 1);
            if (keepsFirst) {
                sizes.putIfAbsent(key, its);
            } else {
                sizes.put(key, its);
            }
        }
        int[] size = {1, 1};
        for (Object its : sizes.values()) {
            size[0] += ((int[]) its)[0];
            size[1] = Math.max(size[1], ((int[]) its)[1] + 1);
        }
        return size;
    }

    // ---- lines: a row is a List, a map is a Map, and any other value is a String

    private void lines() {
        Object[] root = new Object[1];
        do {
            root[0] = line(root[0], 1);
        } while (at < text.length());
    }

    @SuppressWarnings("unchecked")
    private Object line(Object value, int level) {
        if (takes("=")) {
            want(value == null);
            if (takes("[]") || takes("{}")) {
                value = "holder";
            } else {
                scalar();
                value = "scalar";
            }
            want(at == text.length() || takes("\n"));
            return value;
        }
        int start = at;
        if (takes("[")) {
            want(value == null || value instanceof List);
            List<Object> row = value == null ? new ArrayList<>() : (List<Object>) value;
            String digits = takes(Pattern.compile("0|[1-9][0-9]{0,2}"));
            int index = Integer.parseInt(digits);
            want(takes("]"));
            boolean again = index == row.size() - 1 && !(row.get(index) instanceof String);
            want(again || index == row.size());
            if (again) {
                row.set(index, line(row.get(index), level + 1));
            } else {
                count(start, level + 1, 1, 1);
                row.add(line(null, level + 1));
            }
            return row;
        }
        want(takes(".") && (value == null || value instanceof Map));
        Map<String, Object> map = value == null ? new LinkedHashMap<>() : (Map<String, Object>) value;
        String key = takes(TEXT);
        String last = null;
        for (String one : map.keySet()) {
            last = one;
        }
        boolean again = key.equals(last) && !(map.get(key) instanceof String);
        if (again) {
            map.put(key, line(map.get(key), level + 1));
            return map;
        }
        want(!map.containsKey(key) || at - 1 >= known);
        count(start, level + 1, 1, 1);
        Object its = line(null, level + 1);
        map.remove(key);
        map.put(key, its);
        return map;
    }
}
