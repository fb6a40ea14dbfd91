import java.math.BigDecimal;
import java.util.ArrayList;
import java.util.LinkedHashMap;
import java.util.LinkedHashSet;
import java.util.List;
import java.util.Map;
import java.util.Set;
import java.util.TreeMap;

/** A value as a tree of objects: what the mill does, told another way. */
final class Node {
    static final class TooMuch extends RuntimeException {
        private static final long serialVersionUID = 1;
    }

    char kind;
    boolean truth;
    boolean minus;
    BigDecimal number;
    String text;
    final List<Node> items = new ArrayList<>();
    final LinkedHashMap<String, Node> pairs = new LinkedHashMap<>();

    Node(char kind) {
        this.kind = kind;
    }

    static Node random(Chance chance, int level, int width) {
        Node node = new Node(level >= 5 || chance.once(level + 1) && level > 1 ? chance.of(new Character[] {'z', 'b',
            'n', 'n', 'n', 't'}) : chance.of(new Character[] {'r', 'm', 'm'}));
        node.truth = node.kind == 'b' && chance.once(2);
        node.text = node.kind == 't' ? chance.of(new String[] {"", "a", "\"\\\n", "x y"}) : null;
        if (node.kind == 'n') {
            int digits = chance.of(new Integer[] {0, 0, 1, 5, 10, 20, 250, 999999999, 16777217, 33554432});
            node.number = BigDecimal.valueOf(chance.once(3) ? -digits : digits, chance.below(5));
            node.minus = digits == 0 && chance.once(2);
        }
        int many = chance.below(width + 1);
        for (int i = 0; i < many && node.kind == 'r'; i++) {
            node.items.add(random(chance, level + 1, width));
        }
        for (int i = 0; i < many && node.kind == 'm'; i++) {
            node.pairs.put(chance.of(new String[] {"a", "b", "c", "", "B", "ab", "\n"}), random(chance, level + 1, width));
        }
        return node;
    }

    Node copy() {
        Node copy = new Node(kind);
        copy.take(this);
        return copy;
    }

    /** Becomes a copy of another one. */
    void take(Node other) {
        List<Node> itsItems = new ArrayList<>();
        LinkedHashMap<String, Node> itsPairs = new LinkedHashMap<>();
        other.items.forEach(item -> itsItems.add(item.copy()));
        other.pairs.forEach((key, value) -> itsPairs.put(key, value.copy()));
        kind = other.kind;
        truth = other.truth;
        minus = other.minus;
        number = other.number;
        text = other.text;
        items.clear();
        items.addAll(itsItems);
        pairs.clear();
        pairs.putAll(itsPairs);
    }

    List<Node> inside() {
        return kind == 'r' ? items : new ArrayList<>(pairs.values());
    }

    int values() {
        return 1 + inside().stream().mapToInt(Node::values).sum();
    }

    int depth() {
        return 1 + inside().stream().mapToInt(Node::depth).max().orElse(0);
    }

    boolean fits() {
        return values() <= 200 && depth() <= 8;
    }

    int holders() {
        return (kind == 'r' || kind == 'm' ? 1 : 0) + inside().stream().mapToInt(Node::holders).sum();
    }

    int lost() {
        int lost = kind == 'n' && new BigDecimal(number.floatValue()).compareTo(number) != 0 ? 1 : 0;
        return lost + inside().stream().mapToInt(Node::lost).sum();
    }

    int size() {
        return kind == 'b' ? truth ? 1 : 0 : kind == 'n' ? number.scale() : kind == 't' ? text.length() : inside().size();
    }

    // ---- writing

    static String quoted(String text) {
        return "\"" + text.replace("\\", "\\\\").replace("\"", "\\\"").replace("\n", "\\n") + "\"";
    }

    private String plain(boolean shortest) {
        switch (kind) {
            case 'z':
                return "null";
            case 'b':
                return truth ? "true" : "false";
            case 't':
                return quoted(text);
            default:
                BigDecimal written = number;
                if (shortest) {
                    written = number.signum() == 0 ? BigDecimal.ZERO : number.stripTrailingZeros();
                    written = written.scale() < 0 ? written.setScale(0) : written;
                }
                return (minus && !shortest ? "-" : "") + written.toPlainString();
        }
    }

    private Map<String, Node> pairs(boolean rising) {
        return rising ? new TreeMap<>(pairs) : pairs;
    }

    String braces(boolean rising, boolean shortest) {
        if (kind != 'r' && kind != 'm') {
            return plain(shortest);
        }
        List<String> parts = new ArrayList<>();
        items.forEach(item -> parts.add(item.braces(rising, shortest)));
        pairs(rising).forEach((key, value) -> parts.add(quoted(key) + ":" + value.braces(rising, shortest)));
        return (kind == 'r' ? "[" : "{") + String.join(",", parts) + (kind == 'r' ? "]" : "}");
    }

    String parens(boolean rising) {
        switch (kind) {
            case 'z':
                return "n";
            case 'b':
                return truth ? "y" : "f";
            case 'r':
            case 'm':
                List<String> parts = new ArrayList<>();
                items.forEach(item -> parts.add(item.parens(rising)));
                pairs(rising).forEach((key, value) -> parts.add(quoted(key) + " " + value.parens(rising)));
                return (kind == 'r' ? "(" : "(:") + String.join(" ", parts) + ")";
            default:
                return plain(false);
        }
    }

    String lines(boolean rising, String leading) {
        if (inside().isEmpty()) {
            return leading + "=" + braces(false, false) + "\n";
        }
        StringBuilder lines = new StringBuilder();
        for (int i = 0; i < items.size(); i++) {
            lines.append(items.get(i).lines(rising, leading + "[" + i + "]"));
        }
        pairs(rising).forEach((key, value) -> lines.append(value.lines(rising, leading + "." + quoted(key))));
        return lines.toString();
    }

    // ---- paths: each step is one of *, ?, .key and [index

    Set<Node> select(List<String> path) {
        List<Node> found = new ArrayList<>(List.of(this));
        for (String step : path) {
            List<Node> next = new ArrayList<>();
            for (Node node : found) {
                node.follow(step, next);
            }
            found = next;
        }
        return new LinkedHashSet<>(found);
    }

    private void follow(String step, List<Node> next) {
        String rest = step.substring(1);
        if (step.charAt(0) == '?') {
            next.add(this);
            inside().forEach(value -> value.follow(step, next));
        } else if (step.charAt(0) == '*') {
            next.addAll(inside());
        } else if (step.charAt(0) == '.' && pairs.containsKey(rest)) {
            next.add(pairs.get(rest));
        } else if (step.charAt(0) == '[' && Integer.parseInt(rest) < items.size()) {
            next.add(items.get(Integer.parseInt(rest)));
        }
    }

    private boolean isIn(Node other) {
        return other.inside().stream().anyMatch(value -> value == this || isIn(value));
    }

    int replace(List<String> path, Node by) {
        Set<Node> chosen = select(path);
        Node with = by.copy();
        int many = 0;
        for (Node node : chosen) {
            if (chosen.stream().noneMatch(node::isIn)) {
                many++;
            }
        }
        replaceIn(chosen, with);
        return many;
    }

    private void replaceIn(Set<Node> chosen, Node by) {
        if (chosen.contains(this)) {
            take(by);
        } else {
            inside().forEach(value -> value.replaceIn(chosen, by));
        }
    }

    int remove(List<String> path) {
        Set<Node> chosen = select(path);
        chosen.remove(this);
        return removeFrom(chosen);
    }

    private int removeFrom(Set<Node> chosen) {
        int before = inside().size();
        items.removeIf(chosen::contains);
        pairs.values().removeIf(chosen::contains);
        return before - inside().size() + inside().stream().mapToInt(value -> value.removeFrom(chosen)).sum();
    }

    int put(List<String> path, String key, Node by) {
        Node with = by.copy();
        List<Node> chosen = new ArrayList<>(select(path));
        chosen.removeIf(node -> node.kind != 'r' && node.kind != 'm');
        for (Node node : chosen) {
            if (node.kind == 'r') {
                node.items.add(with.copy());
            } else {
                node.pairs.put(key, with.copy());
            }
        }
        return chosen.size();
    }

    int change(List<String> path, char op, int by) {
        int many = 0;
        for (Node node : select(path)) {
            if (node.kind == 'n') {
                String before = node.plain(false);
                node.change(op, by);
                many += node.plain(false).equals(before) ? 0 : 1;
            }
        }
        return many;
    }

    private void change(char op, int by) {
        boolean wasMinus = minus || number.signum() < 0;
        BigDecimal operand = BigDecimal.valueOf(by);
        switch (op) {
            case '+':
                number = number.add(BigDecimal.valueOf(by, number.scale()));
                minus = false;
                break;
            case '*':
                number = number.multiply(operand);
                minus = false;
                break;
            case 'c':
                number = number.setScale(Math.min(by, number.scale()), java.math.RoundingMode.DOWN);
                minus = wasMinus && number.signum() == 0;
                break;
            default:
                minus = number.signum() == 0 && !minus;
                number = number.negate();
                break;
        }
        if (number.unscaledValue().abs().compareTo(java.math.BigInteger.valueOf(999999999)) > 0) {
            throw new TooMuch();
        }
    }

    // ---- tables, differences and merges

    Node columns() {
        if (kind != 'r' || items.stream().anyMatch(item -> item.kind != 'm')) {
            return null;
        }
        Node table = new Node('m');
        items.forEach(item -> item.pairs.keySet().forEach(key -> table.pairs.put(key, new Node('r'))));
        table.pairs.forEach((key, row) -> items.forEach(item ->
            row.items.add(item.pairs.getOrDefault(key, new Node('z')).copy())));
        return table;
    }

    Node rows() {
        long lengths = pairs.values().stream().map(row -> row.kind == 'r' ? row.items.size() : -1).distinct().count();
        if (kind != 'm' || lengths > 1 || pairs.values().stream().anyMatch(row -> row.kind != 'r')) {
            return null;
        }
        Node table = new Node('r');
        pairs.forEach((key, row) -> {
            for (int i = 0; i < row.items.size(); i++) {
                if (table.items.size() <= i) {
                    table.items.add(new Node('m'));
                }
                if (row.items.get(i).kind != 'z') {
                    table.items.get(i).pairs.put(key, row.items.get(i).copy());
                }
            }
        });
        return table;
    }

    boolean same(Node other) {
        return other != null && braces(true, true).equals(other.braces(true, true));
    }

    int differences(Node other) {
        int sum = 0;
        if (kind == 'm' && other.kind == 'm') {
            Set<String> keys = new LinkedHashSet<>(pairs.keySet());
            keys.addAll(other.pairs.keySet());
            for (String key : keys) {
                boolean both = pairs.containsKey(key) && other.pairs.containsKey(key);
                sum += both ? pairs.get(key).differences(other.pairs.get(key)) : 1;
            }
            return sum;
        }
        if (kind == 'r' && other.kind == 'r' && items.size() == other.items.size()) {
            for (int i = 0; i < items.size(); i++) {
                sum += items.get(i).differences(other.items.get(i));
            }
            return sum;
        }
        return same(other) ? 0 : 1;
    }

    /** Returns what two changes of a value come to, or null for one that is not there; adds up conflicts. */
    static Node merge(Node from, Node first, Node second, int[] conflicts) {
        if (alike(first, second) || alike(second, from)) {
            return first == null ? null : first.copy();
        }
        if (alike(first, from)) {
            return second == null ? null : second.copy();
        }
        if (from == null || first == null || second == null
                || from.kind != 'm' || first.kind != 'm' || second.kind != 'm') {
            conflicts[0]++;
            return first == null ? null : first.copy();
        }
        Node merged = new Node('m');
        Set<String> keys = new LinkedHashSet<>(first.pairs.keySet());
        keys.addAll(second.pairs.keySet());
        for (String key : keys) {
            Node value = merge(from.pairs.get(key), first.pairs.get(key), second.pairs.get(key), conflicts);
            if (value != null) {
                merged.pairs.put(key, value);
            }
        }
        return merged;
    }

    private static boolean alike(Node one, Node other) {
        return one == null ? other == null : one.same(other);
    }
}
