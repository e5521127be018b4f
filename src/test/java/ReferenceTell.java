import java.util.ArrayList;
import java.util.HashMap;
import java.util.List;
import java.util.Map;
import java.util.regex.Matcher;
import java.util.regex.Pattern;

/** The document's TEXTS once more: a tree of the text first, then its meaning. */
final class ReferenceTell {
    private static final List<String> WORDS =
        List.of("max", "min", "set", "par", "var", "whole", "row", "sum", "in");

    static final class Fault extends RuntimeException {
        final int kind;
        final int place;

        Fault(int kind, int place) {
            super(null, null, false, false);
            this.kind = kind;
            this.place = place;
        }
    }

    private record Token(String sort, String text, int place) {
    }

    /** An expression: its sort, its own token, the token it is named by, and what is in it. */
    private static final class Node {
        String sort;
        Token token;
        Token name;
        Token set;
        List<Node> parts = new ArrayList<>();
        List<Token> signs = new ArrayList<>();
        List<Item> items;
    }

    private static final class Item {
        Token name;
        int step;
    }

    private static final class Thing {
        String sort;
        int low;
        int high;
        Thing first;
        Thing second;
        int value;
        int base;
        List<Integer> values = new ArrayList<>();

        int size() {
            return high - low + 1;
        }

        int asked() {
            return (first == null ? 1 : first.size()) * (second == null ? 1 : second.size());
        }

        int indexes() {
            return first == null ? 0 : second == null ? 1 : 2;
        }
    }

    private static final class Statement {
        String sort;
        Token name;
        Token first;
        Token second;
        boolean whole;
        Token relation;
        List<Integer> numbers = new ArrayList<>();
        Node left;
        Node right;
    }

    private final List<Token> tokens = new ArrayList<>();
    private final Map<String, Thing> things = new HashMap<>();
    private final ReferenceWork.Model model = new ReferenceWork.Model();
    private int at;
    private int sets;
    private int pars;
    private int looked;

    private ReferenceTell() {
    }

    /** "0", or the fault and its place as "2 at 7". */
    static String tell(String text) {
        try {
            model(text);
            return "0";
        } catch (Fault fault) {
            return fault.kind + " at " + fault.place;
        }
    }

    static ReferenceWork.Model model(String text) {
        if (text.length() > 2000) {
            throw new Fault(1, 2000);
        }
        ReferenceTell teller = new ReferenceTell();
        teller.scan(text);
        List<Statement> program = teller.program();
        teller.model.whole = new boolean[13];
        for (Statement statement : program) {
            teller.mean(statement);
        }
        return teller.model;
    }

    private void scan(String text) {
        Matcher m = Pattern.compile("[A-Za-z0-9]+|\\.\\.|<=|>=|[=;,\\[\\]()+*:-]").matcher(text);
        int i = 0;
        while (i < text.length()) {
            char c = text.charAt(i);
            if (c == ' ' || c == '\n') {
                i++;
                continue;
            }
            m.region(i, text.length());
            String sort = "bad";
            String token = text.substring(i, i + 1);
            if (m.lookingAt()) {
                token = m.group();
                if (WORDS.contains(token) || !Character.isLetterOrDigit(token.charAt(0))) {
                    sort = token;
                } else if (token.matches("[A-Za-z][A-Za-z0-9]{0,7}")) {
                    sort = "name";
                } else if (token.matches("[0-9]{1,5}")) {
                    sort = "number";
                }
            }
            tokens.add(new Token(sort, token, i));
            i += token.length();
        }
        tokens.add(new Token("end", "", text.length()));
    }

    private boolean is(String sort) {
        return tokens.get(at).sort.equals(sort);
    }

    private Token need(String sort) {
        if (!is(sort)) {
            throw new Fault(1, tokens.get(at).place);
        }
        at++;
        return tokens.get(at - 1);
    }

    private Token take() {
        at++;
        return tokens.get(at - 1);
    }

    private int number() {
        return Integer.parseInt(need("number").text);
    }

    private List<Statement> program() {
        List<Statement> program = new ArrayList<>();
        while (is("set") || is("par") || is("var")) {
            program.add(declaration());
        }
        if (!is("max") && !is("min")) {
            need("max");
        }
        Statement goal = new Statement();
        goal.sort = take().text;
        goal.left = expression(0);
        need(";");
        program.add(goal);
        while (is("row")) {
            program.add(row());
        }
        need("end");
        return program;
    }

    private Statement declaration() {
        Statement s = new Statement();
        s.sort = take().text;
        s.name = need("name");
        if (s.sort.equals("set")) {
            need("=");
            s.numbers.add(number());
            need("..");
            s.numbers.add(number());
            need(";");
            return s;
        }
        if (is("[")) {
            take();
            s.first = need("name");
            if (is(",")) {
                take();
                s.second = need("name");
            }
            need("]");
        }
        if (s.sort.equals("par")) {
            need("=");
            boolean more = true;
            while (more) {
                boolean below = is("-");
                if (below) {
                    take();
                }
                s.numbers.add(below ? -number() : number());
                more = is(",");
                if (more) {
                    take();
                }
            }
        } else if (is("whole")) {
            take();
            s.whole = true;
        }
        need(";");
        return s;
    }

    private Statement row() {
        Statement s = new Statement();
        s.sort = take().text;
        s.name = need("name");
        if (is("[")) {
            take();
            s.first = need("name");
            need("in");
            s.second = need("name");
            need("]");
        }
        need(":");
        s.left = expression(0);
        if (!is("<=") && !is(">=") && !is("=")) {
            need("=");
        }
        s.relation = take();
        s.right = expression(0);
        need(";");
        return s;
    }

    private Node expression(int depth) {
        Node node = new Node();
        node.sort = "E";
        node.parts.add(term(depth));
        while (is("+") || is("-")) {
            node.signs.add(take());
            node.parts.add(term(depth));
        }
        return node;
    }

    private Node term(int depth) {
        Node node = new Node();
        node.sort = "T";
        node.parts.add(factor(depth));
        while (is("*")) {
            node.signs.add(take());
            node.parts.add(factor(depth));
        }
        return node;
    }

    private Node factor(int depth) {
        Node node = new Node();
        if (depth == 30) {
            throw new Fault(1, tokens.get(at).place);
        }
        node.token = tokens.get(at);
        node.sort = node.token.sort;
        switch (node.sort) {
            case "-":
                take();
                node.parts.add(factor(depth + 1));
                return node;
            case "(":
                take();
                node.parts.add(expression(depth + 1));
                need(")");
                return node;
            case "number":
                take();
                return node;
            case "sum":
                take();
                node.name = need("name");
                need("in");
                node.set = need("name");
                need("(");
                node.parts.add(expression(depth + 1));
                need(")");
                return node;
            case "name":
                take();
                if (is("[")) {
                    take();
                    node.items = new ArrayList<>();
                    node.items.add(item());
                    if (is(",")) {
                        take();
                        node.items.add(item());
                    }
                    need("]");
                }
                return node;
            default:
                throw new Fault(1, node.token.place);
        }
    }

    private Item item() {
        Item item = new Item();
        if (is("number")) {
            item.step = number();
            return item;
        }
        item.name = need("name");
        if (is("+") || is("-")) {
            boolean below = take().text.equals("-");
            item.step = below ? -number() : number();
        }
        return item;
    }

    private Thing thing(Token name, String sort) {
        Thing thing = things.get(name.text);
        if (thing == null || !thing.sort.equals(sort)) {
            throw new Fault(2, name.place);
        }
        return thing;
    }

    private Thing learn(Token name, String sort) {
        if (things.containsKey(name.text)) {
            throw new Fault(2, name.place);
        }
        Thing thing = new Thing();
        thing.sort = sort;
        things.put(name.text, thing);
        return thing;
    }

    private void mean(Statement s) {
        switch (s.sort) {
            case "set":
                meanSet(s);
                break;
            case "par":
            case "var":
                meanParOrVar(s);
                break;
            case "row":
                meanRow(s);
                break;
            default:
                model.max = s.sort.equals("max");
                model.goal = new long[model.n + 1];
                long[] sum = value(s.left);
                for (int j = 0; j <= model.n; j++) {
                    model.goal[j] = model.max ? sum[j] : -sum[j];
                }
                break;
        }
    }

    private void meanSet(Statement s) {
        Thing set = learn(s.name, "set");
        set.low = s.numbers.get(0);
        set.high = s.numbers.get(1);
        if (set.low > set.high || set.size() > 12) {
            throw new Fault(3, s.name.place);
        }
        sets++;
        if (sets > 8) {
            throw new Fault(7, s.name.place);
        }
    }

    private void meanParOrVar(Statement s) {
        Thing thing = learn(s.name, s.sort);
        thing.first = s.first == null ? null : thing(s.first, "set");
        thing.second = s.second == null ? null : thing(s.second, "set");
        if (s.sort.equals("par")) {
            thing.values = s.numbers;
            if (s.numbers.size() != thing.asked()) {
                throw new Fault(3, s.name.place);
            }
            pars++;
            if (pars > 12) {
                throw new Fault(7, s.name.place);
            }
            return;
        }
        thing.base = model.n + 1;
        if (model.n + thing.asked() > 12) {
            throw new Fault(7, s.name.place);
        }
        for (int i = 0; i < thing.asked(); i++) {
            model.n++;
            model.whole[model.n] = s.whole;
        }
    }

    private void meanRow(Statement s) {
        learn(s.name, "row");
        if (s.first == null) {
            oneRow(s);
            return;
        }
        Thing index = learn(s.first, "index");
        Thing set = thing(s.second, "set");
        for (int i = set.low; i <= set.high; i++) {
            index.value = i;
            oneRow(s);
        }
        things.remove(s.first.text);
    }

    private void oneRow(Statement s) {
        long[] left = value(s.left).clone();
        long[] right = value(s.right);
        for (int j = 0; j <= model.n; j++) {
            left[j] -= right[j];
        }
        great(left, s.relation.place);
        String relation = s.relation.text;
        if (model.rows.size() + (relation.equals("=") ? 2 : 1) > 16) {
            throw new Fault(7, s.name.place);
        }
        for (int turn = 1; turn >= -1; turn -= 2) {
            if (!relation.equals(turn == 1 ? ">=" : "<=")) {
                long[] row = new long[model.n + 1];
                for (int j = 1; j <= model.n; j++) {
                    row[j] = turn * left[j];
                }
                row[0] = -turn * left[0];
                model.rows.add(row);
            }
        }
    }

    private static void great(long[] numbers, int place) {
        for (long number : numbers) {
            if (number > 99999 || number < -99999) {
                throw new Fault(6, place);
            }
        }
    }

    private static boolean isLinear(long[] numbers) {
        for (int j = 1; j < numbers.length; j++) {
            if (numbers[j] != 0) {
                return true;
            }
        }
        return false;
    }

    private long[] value(Node node) {
        switch (node.sort) {
            case "E": {
                long[] sum = value(node.parts.get(0)).clone();
                for (int i = 1; i < node.parts.size(); i++) {
                    long[] part = value(node.parts.get(i));
                    Token sign = node.signs.get(i - 1);
                    for (int j = 0; j < sum.length; j++) {
                        sum[j] += sign.text.equals("+") ? part[j] : -part[j];
                    }
                    great(sum, sign.place);
                }
                return sum;
            }
            case "T": {
                long[] product = value(node.parts.get(0)).clone();
                for (int i = 1; i < node.parts.size(); i++) {
                    long[] part = value(node.parts.get(i));
                    Token sign = node.signs.get(i - 1);
                    if (isLinear(product) && isLinear(part)) {
                        throw new Fault(4, sign.place);
                    }
                    long[] both = isLinear(product) ? product : part;
                    long number = isLinear(product) ? part[0] : product[0];
                    long[] result = new long[product.length];
                    for (int j = 0; j < result.length; j++) {
                        result[j] = both[j] * number;
                    }
                    great(result, sign.place);
                    product = result;
                }
                return product;
            }
            default:
                return factorValue(node);
        }
    }

    private long[] factorValue(Node node) {
        long[] result = new long[model.n + 1];
        Thing named = null;
        if (node.sort.equals("name")) {
            named = things.get(node.token.text);
            boolean index = named != null && named.sort.equals("index") && node.items == null;
            if (!index && (named == null || !named.sort.equals("par") && !named.sort.equals("var"))) {
                throw new Fault(2, node.token.place);
            }
        }
        looked++;
        if (looked > 20000) {
            throw new Fault(7, node.token.place);
        }
        switch (node.sort) {
            case "number":
                result[0] = Integer.parseInt(node.token.text);
                return result;
            case "(":
                return value(node.parts.get(0));
            case "-": {
                long[] inner = value(node.parts.get(0));
                for (int j = 0; j < result.length; j++) {
                    result[j] = -inner[j];
                }
                return result;
            }
            case "sum": {
                Thing index = learn(node.name, "index");
                Thing set = thing(node.set, "set");
                for (int i = set.low; i <= set.high; i++) {
                    index.value = i;
                    long[] part = value(node.parts.get(0));
                    for (int j = 0; j < result.length; j++) {
                        result[j] += part[j];
                    }
                    great(result, node.token.place);
                }
                things.remove(node.name.text);
                return result;
            }
            default:
                return namedValue(node, named, result);
        }
    }

    private long[] namedValue(Node node, Thing named, long[] result) {
        if (named.sort.equals("index")) {
            result[0] = named.value;
            return result;
        }
        List<Integer> at = new ArrayList<>();
        for (Item item : node.items == null ? new ArrayList<Item>() : node.items) {
            at.add(item.step + (item.name == null ? 0 : thing(item.name, "index").value));
        }
        if (at.size() != named.indexes()) {
            throw new Fault(2, node.token.place);
        }
        int offset = 0;
        for (int i = 0; i < at.size(); i++) {
            Thing set = i == 0 ? named.first : named.second;
            if (at.get(i) < set.low || at.get(i) > set.high) {
                throw new Fault(5, node.token.place);
            }
            offset = offset * set.size() + at.get(i) - set.low;
        }
        if (named.sort.equals("par")) {
            result[0] = named.values.get(offset);
        } else {
            result[named.base + offset] = 1;
        }
        return result;
    }
}
