import java.math.BigInteger;
import java.util.ArrayList;
import java.util.List;
import java.util.regex.Matcher;
import java.util.regex.Pattern;

/** The document's CHECKER once more, with BigInteger and recursion. */
final class ReferenceCheck {
    private static final BigInteger ZERO = BigInteger.ZERO;
    private static final BigInteger MOST = BigInteger.TEN.pow(60);

    static final class Fault extends RuntimeException {
        final int kind;
        final int place;

        Fault(int kind, int place) {
            super(null, null, false, false);
            this.kind = kind;
            this.place = place;
        }
    }

    private static final class Token {
        String text;
        int place;
    }

    private static final class Tree {
        String word;
        int place;
        BigInteger k;
        BigInteger v;
        BigInteger q;
        List<BigInteger> r = new ArrayList<>();
        List<BigInteger> y = new ArrayList<>();
        Tree first;
        Tree second;
    }

    private final ReferenceWork.Model model;
    private final List<Token> tokens = new ArrayList<>();
    private int at;
    private int trees;
    private BigInteger top;
    private BigInteger bottom;

    private ReferenceCheck(ReferenceWork.Model model) {
        this.model = model;
    }

    /** "0", or the fault and its place as "4 at 17". */
    static String check(ReferenceWork.Model model, String text) {
        try {
            new ReferenceCheck(model).run(text);
            return "0";
        } catch (Fault fault) {
            return fault.kind + " at " + fault.place;
        }
    }

    private void scan(String text) {
        Matcher m = Pattern.compile("[ \\n]*([A-Za-z]+|-?[0-9]+|[^ \\n]|$)", Pattern.DOTALL).matcher(text);
        int from = 0;
        while (m.find(from)) {
            Token token = new Token();
            token.text = m.group(1);
            token.place = m.start(1);
            if (token.text.startsWith("-") || token.text.matches("[0-9]+")) {
                boolean good = token.text.matches("[0-9]{1,60}")
                    || token.text.matches("-[0-9]{1,60}") && !token.text.matches("-0+");
                if (!good) {
                    token.text = "?";
                }
            }
            tokens.add(token);
            from = m.end(1);
            if (token.text.isEmpty()) {
                return;
            }
        }
    }

    private String word() {
        return tokens.get(at).text;
    }

    private int place() {
        return tokens.get(at).place;
    }

    private void need(String text) {
        if (!word().equals(text)) {
            throw new Fault(1, place());
        }
        at++;
    }

    private boolean isNumber() {
        return word().matches("-?[0-9]+");
    }

    private BigInteger number() {
        if (!isNumber()) {
            throw new Fault(1, place());
        }
        at++;
        return new BigInteger(tokens.get(at - 1).text);
    }

    private BigInteger above() {
        int place = place();
        BigInteger value = number();
        if (value.signum() <= 0) {
            throw new Fault(1, place);
        }
        return value;
    }

    private BigInteger[] point() {
        BigInteger[] x = new BigInteger[model.n + 1];
        for (int j = 1; j <= model.n; j++) {
            x[j] = number();
        }
        need("/");
        x[0] = above();
        return x;
    }

    private Tree tree() {
        Tree t = new Tree();
        t.word = word();
        t.place = place();
        at++;
        switch (t.word) {
            case "branch":
                t.k = number();
                t.v = number();
                t.first = tree();
                t.second = tree();
                return t;
            case "cut":
            case "bound":
            case "farkas":
                t.q = above();
                while (isNumber()) {
                    t.r.add(number());
                    need(":");
                    t.y.add(number());
                }
                need(";");
                if (t.word.equals("cut")) {
                    t.first = tree();
                }
                return t;
            default:
                throw new Fault(1, t.place);
        }
    }

    private void finish() {
        if (!word().isEmpty()) {
            throw new Fault(1, place());
        }
    }

    private void run(String text) {
        scan(text);
        String head = word();
        int headPlace = place();
        at++;
        List<BigInteger[]> rows = new ArrayList<>();
        for (long[] row : model.rows) {
            BigInteger[] big = new BigInteger[model.n + 1];
            for (int j = 0; j <= model.n; j++) {
                big[j] = BigInteger.valueOf(row[j]);
            }
            rows.add(big);
        }
        if (head.equals("optimal")) {
            top = number();
            need("/");
            bottom = above();
            int pointPlace = place();
            need("at");
            BigInteger[] x = point();
            Tree tree = tree();
            finish();
            if (!model.max) {
                top = top.negate();
            }
            BigInteger value = sum(goal(), x).add(goal()[0].multiply(x[0]));
            if (!value.multiply(bottom).equals(top.multiply(x[0]))) {
                throw new Fault(3, headPlace);
            }
            meets(rows, x, true, pointPlace);
            hold(tree, rows);
        } else if (head.equals("infeasible")) {
            Tree tree = tree();
            finish();
            hold(tree, rows);
        } else if (head.equals("unbounded")) {
            int pointPlace = place();
            need("at");
            BigInteger[] x = point();
            int alongPlace = place();
            need("along");
            BigInteger[] along = point();
            finish();
            meets(rows, x, false, pointPlace);
            boolean fine = sum(goal(), along).signum() > 0;
            for (int j = 1; j <= model.n; j++) {
                fine &= along[j].signum() >= 0;
            }
            for (BigInteger[] row : rows) {
                fine &= sum(row, along).signum() <= 0;
            }
            if (!fine) {
                throw new Fault(5, alongPlace);
            }
        } else {
            throw new Fault(1, headPlace);
        }
    }

    private BigInteger[] goal() {
        BigInteger[] big = new BigInteger[model.n + 1];
        for (int j = 0; j <= model.n; j++) {
            big[j] = BigInteger.valueOf(model.goal[j]);
        }
        return big;
    }

    private BigInteger sum(BigInteger[] row, BigInteger[] x) {
        BigInteger sum = ZERO;
        for (int j = 1; j <= model.n; j++) {
            sum = sum.add(row[j].multiply(x[j]));
        }
        return sum;
    }

    private void meets(List<BigInteger[]> rows, BigInteger[] x, boolean whole, int place) {
        for (int j = 1; j <= model.n; j++) {
            if (x[j].signum() < 0 || whole && model.whole[j] && x[j].mod(x[0]).signum() != 0) {
                throw new Fault(2, place);
            }
        }
        for (BigInteger[] row : rows) {
            if (sum(row, x).compareTo(row[0].multiply(x[0])) > 0) {
                throw new Fault(2, place);
            }
        }
    }

    private static BigInteger floor(BigInteger a, BigInteger d) {
        return a.subtract(a.mod(d)).divide(d);
    }

    private void hold(Tree t, List<BigInteger[]> rows) {
        trees++;
        if (trees > 3000) {
            throw new Fault(6, t.place);
        }
        if (t.word.equals("branch")) {
            holdBranch(t, rows);
            return;
        }
        BigInteger[] sums = new BigInteger[model.n + 1];
        java.util.Arrays.fill(sums, ZERO);
        BigInteger last = ZERO;
        boolean all = true;
        boolean goalWhole = true;
        for (int j = 1; j <= model.n; j++) {
            all &= model.whole[j];
            goalWhole &= model.whole[j] || model.goal[j] == 0;
        }
        for (int i = 0; i < t.r.size(); i++) {
            BigInteger r = t.r.get(i);
            if (r.compareTo(last) <= 0 || r.compareTo(BigInteger.valueOf(rows.size())) > 0
                || t.y.get(i).signum() < 0) {
                throw new Fault(4, t.place);
            }
            last = r;
            for (int j = 0; j <= model.n; j++) {
                sums[j] = sums[j].add(t.y.get(i).multiply(rows.get(r.intValue() - 1)[j]));
            }
        }
        if (t.word.equals("cut")) {
            if (!all) {
                throw new Fault(4, t.place);
            }
            boolean much = rows.size() >= 40;
            for (int j = 0; j <= model.n; j++) {
                sums[j] = floor(sums[j], t.q);
                much |= sums[j].abs().compareTo(MOST) >= 0;
            }
            if (much) {
                throw new Fault(6, t.place);
            }
            List<BigInteger[]> more = new ArrayList<>(rows);
            more.add(sums);
            hold(t.first, more);
            return;
        }
        boolean fine = true;
        boolean farkas = t.word.equals("farkas");
        for (int j = 1; j <= model.n; j++) {
            BigInteger least = farkas ? ZERO : t.q.multiply(BigInteger.valueOf(model.goal[j]));
            fine &= sums[j].compareTo(least) >= 0;
        }
        if (farkas) {
            fine &= sums[0].signum() < 0;
        } else if (top == null) {
            fine = false;
        } else {
            BigInteger value = sums[0].add(t.q.multiply(BigInteger.valueOf(model.goal[0])));
            BigInteger over = t.q;
            if (goalWhole) {
                value = floor(value, t.q);
                over = BigInteger.ONE;
            }
            fine &= value.multiply(bottom).compareTo(top.multiply(over)) <= 0;
        }
        if (!fine) {
            throw new Fault(4, t.place);
        }
    }

    private void holdBranch(Tree t, List<BigInteger[]> rows) {
        boolean good = t.k.signum() > 0 && t.k.compareTo(BigInteger.valueOf(model.n)) <= 0
            && model.whole[t.k.intValue()];
        if (!good) {
            throw new Fault(4, t.place);
        }
        if (rows.size() >= 40) {
            throw new Fault(6, t.place);
        }
        for (int side = 0; side < 2; side++) {
            BigInteger[] row = new BigInteger[model.n + 1];
            java.util.Arrays.fill(row, ZERO);
            row[t.k.intValue()] = side == 0 ? BigInteger.ONE : BigInteger.ONE.negate();
            row[0] = side == 0 ? t.v : t.v.add(BigInteger.ONE).negate();
            List<BigInteger[]> more = new ArrayList<>(rows);
            more.add(row);
            hold(side == 0 ? t.first : t.second, more);
        }
    }
}
