import java.math.BigInteger;
import java.util.ArrayList;
import java.util.List;

/** The document's dictionaries and work once more, with BigInteger and recursion, in pictures. */
final class ReferenceWork {
    static final BigInteger ZERO = BigInteger.ZERO;
    static final BigInteger ONE = BigInteger.ONE;
    static final BigInteger BIG = BigInteger.TEN.pow(54);

    /** Ends the work with a status. */
    static final class Stop extends RuntimeException {
        final int status;

        Stop(int status) {
            super(null, null, false, false);
            this.status = status;
        }
    }

    /** A model as the document has it; goal and rows have their number without variable at 0. */
    static final class Model {
        int n;
        boolean max;
        boolean[] whole;
        long[] goal;
        List<long[]> rows = new ArrayList<>();
    }

    static final class Dict implements Cloneable {
        BigInteger[][] t;
        BigInteger[] z;
        BigInteger[] w;
        BigInteger d;
        int[] b;
        int[] n;

        Dict copy() {
            Dict c = new Dict();
            c.t = new BigInteger[t.length][];
            for (int i = 1; i < t.length; i++) {
                c.t[i] = t[i].clone();
            }
            c.z = z.clone();
            c.w = w == null ? null : w.clone();
            c.d = d;
            c.b = b.clone();
            c.n = n.clone();
            return c;
        }

        void addRow(BigInteger[] row, int number) {
            BigInteger[][] more = new BigInteger[t.length + 1][];
            System.arraycopy(t, 0, more, 0, t.length);
            more[t.length] = row;
            int[] moreB = java.util.Arrays.copyOf(b, b.length + 1);
            moreB[b.length] = number;
            t = more;
            b = moreB;
        }
    }

    final Model model;
    final int allowed;
    final List<String> pictures = new ArrayList<>();
    /** How long the TREES were at each picture. */
    final List<Integer> treesBytes = new ArrayList<>();
    final StringBuilder trees = new StringBuilder();
    Dict dict;
    List<BigInteger[]> rows = new ArrayList<>();
    int pivots;
    int nodes = 1;
    int bests;
    int cuts;
    int phase;
    int status = 1;
    BigInteger[] best;
    BigInteger bestZ;
    BigInteger bestD;
    String proof = "";
    String atFirst;

    ReferenceWork(Model model, int allowed) {
        this.model = model;
        this.allowed = allowed;
    }

    void run() {
        try {
            root();
            work(0);
            status = bests > 0 ? 2 : 3;
            proof = (bests > 0 ? optimalHead() : "infeasible") + " " + trees;
            if (proof.length() > 30000) {
                status = 6;
                proof = "";
            }
        } catch (Stop stop) {
            status = stop.status;
        }
        takePicture();
    }

    void takePicture() {
        pictures.add(picture());
        treesBytes.add(trees.length());
    }

    void root() {
        int n = model.n;
        int m = model.rows.size();
        boolean below = false;
        for (long[] row : model.rows) {
            below |= row[0] < 0;
            BigInteger[] big = new BigInteger[n + 1];
            for (int j = 0; j <= n; j++) {
                big[j] = BigInteger.valueOf(row[j]);
            }
            rows.add(big);
        }
        int width = below ? n + 2 : n + 1;
        dict = new Dict();
        dict.d = ONE;
        dict.t = new BigInteger[m + 1][];
        dict.b = new int[m + 1];
        dict.n = new int[width];
        for (int i = 1; i <= m; i++) {
            dict.t[i] = new BigInteger[width];
            dict.b[i] = n + i;
            for (int j = 0; j < width; j++) {
                dict.t[i][j] = j <= n ? rows.get(i - 1)[j] : ONE.negate();
            }
        }
        dict.z = new BigInteger[width];
        for (int j = 0; j < width; j++) {
            dict.z[j] = j > n ? ZERO : BigInteger.valueOf(j == 0 ? model.goal[0] : -model.goal[j]);
            dict.n[j] = j <= n ? j : 0;
        }
        phase = 2;
        if (below) {
            phase = 1;
            dict.w = new BigInteger[width];
            java.util.Arrays.fill(dict.w, ZERO);
            dict.w[n + 1] = ONE;
        }
        atFirst = picture();
    }

    void pivot(int r, int s) {
        takePicture();
        Dict a = dict;
        BigInteger p = a.t[r][s];
        BigInteger g = BigInteger.valueOf(p.signum());
        Dict c = a.copy();
        for (int i = 1; i < a.t.length; i++) {
            if (i != r) {
                turn(a.t[i], c.t[i], a, r, s, p, g);
            }
        }
        turn(a.z, c.z, a, r, s, p, g);
        if (a.w != null) {
            turn(a.w, c.w, a, r, s, p, g);
        }
        for (int j = 0; j < a.n.length; j++) {
            c.t[r][j] = j == s ? g.multiply(a.d) : g.multiply(a.t[r][j]);
        }
        c.d = g.multiply(p);
        c.b[r] = a.n[s];
        c.n[s] = a.b[r];
        dict = c;
        pivots++;
    }

    void turn(BigInteger[] from, BigInteger[] to, Dict a, int r, int s, BigInteger p, BigInteger g) {
        for (int j = 0; j < from.length; j++) {
            if (j == s) {
                to[j] = g.negate().multiply(from[j]);
            } else {
                BigInteger[] qr = from[j].multiply(p).subtract(from[s].multiply(a.t[r][j]))
                    .multiply(g).divideAndRemainder(a.d);
                if (qr[1].signum() != 0) {
                    throw new IllegalStateException("a division does not go up");
                }
                if (qr[0].abs().compareTo(BIG) >= 0) {
                    throw new Stop(5);
                }
                to[j] = qr[0];
            }
        }
    }

    /** Whether it went to an end; false for a ray, whose place is left in rayPlace. */
    int rayPlace;

    boolean stepsUp(boolean byW) {
        while (true) {
            BigInteger[] goal = byW ? dict.w : dict.z;
            int s = 0;
            for (int j = 1; j < goal.length; j++) {
                if (goal[j].signum() < 0 && (s == 0 || dict.n[j] < dict.n[s])) {
                    s = j;
                }
            }
            if (s == 0) {
                return true;
            }
            int r = 0;
            for (int i = 1; i < dict.t.length; i++) {
                if (dict.t[i][s].signum() > 0) {
                    int order = r == 0 ? -1 : dict.t[i][0].multiply(dict.t[r][s])
                        .compareTo(dict.t[r][0].multiply(dict.t[i][s]));
                    if (order < 0 || order == 0 && dict.b[i] < dict.b[r]) {
                        r = i;
                    }
                }
            }
            if (r == 0) {
                rayPlace = s;
                return false;
            }
            pivot(r, s);
        }
    }

    /** 0, or the row that shows that it is empty. */
    int stepsDown() {
        while (true) {
            int r = 0;
            for (int i = 1; i < dict.t.length; i++) {
                if (dict.t[i][0].signum() < 0 && (r == 0 || dict.b[i] < dict.b[r])) {
                    r = i;
                }
            }
            if (r == 0) {
                return 0;
            }
            int s = 0;
            for (int j = 1; j < dict.n.length; j++) {
                if (dict.t[r][j].signum() < 0) {
                    int order = s == 0 ? -1 : dict.z[j].multiply(dict.t[r][s].negate())
                        .compareTo(dict.z[s].multiply(dict.t[r][j].negate()));
                    if (order < 0 || order == 0 && dict.n[j] < dict.n[s]) {
                        s = j;
                    }
                }
            }
            if (s == 0) {
                return r;
            }
            pivot(r, s);
        }
    }

    /** False when the root is empty. */
    boolean phaseOne() {
        int r = 1;
        for (int i = 2; i < dict.t.length; i++) {
            if (dict.t[i][0].compareTo(dict.t[r][0]) < 0) {
                r = i;
            }
        }
        pivot(r, model.n + 1);
        stepsUp(true);
        if (dict.w[0].signum() < 0) {
            return false;
        }
        for (int i = 1; i < dict.b.length; i++) {
            if (dict.b[i] == 0) {
                int s = 0;
                for (int j = 1; j < dict.n.length; j++) {
                    if (dict.t[i][j].signum() != 0 && (s == 0 || dict.n[j] < dict.n[s])) {
                        s = j;
                    }
                }
                pivot(i, s);
                break;
            }
        }
        int gone = 0;
        for (int j = 1; j < dict.n.length; j++) {
            gone = dict.n[j] == 0 ? j : gone;
        }
        int last = dict.n.length - 1;
        dict.n[gone] = dict.n[last];
        dict.n = java.util.Arrays.copyOf(dict.n, last);
        for (int i = 1; i < dict.t.length; i++) {
            dict.t[i] = shorten(dict.t[i], gone, last);
        }
        dict.z = shorten(dict.z, gone, last);
        dict.w = null;
        phase = 2;
        return true;
    }

    static BigInteger[] shorten(BigInteger[] row, int gone, int last) {
        row[gone] = row[last];
        return java.util.Arrays.copyOf(row, last);
    }

    static BigInteger floor(BigInteger a, BigInteger d) {
        return a.subtract(a.mod(d)).divide(d);
    }

    boolean goalWhole() {
        for (int j = 1; j <= model.n; j++) {
            if (model.goal[j] != 0 && !model.whole[j]) {
                return false;
            }
        }
        return true;
    }

    boolean allWhole() {
        for (int j = 1; j <= model.n; j++) {
            if (!model.whole[j]) {
                return false;
            }
        }
        return true;
    }

    void work(int cutsOnWay) {
        int emptyRow = 0;
        if (nodes == 1) {
            if (phase == 1 && !phaseOne()) {
                leaf("farkas", dict.w, 0);
                return;
            }
            if (!stepsUp(false)) {
                unbounded();
            }
        } else {
            emptyRow = stepsDown();
        }
        if (emptyRow > 0) {
            leaf("farkas", dict.t[emptyRow], dict.b[emptyRow]);
            return;
        }
        if (bests > 0) {
            BigInteger top = goalWhole() ? floor(dict.z[0], dict.d) : dict.z[0];
            BigInteger bottom = goalWhole() ? ONE : dict.d;
            if (top.multiply(bestD).compareTo(bestZ.multiply(bottom)) <= 0) {
                leaf("bound", dict.z, 0);
                return;
            }
        }
        int r = 0;
        for (int k = model.n; k >= 1; k--) {
            for (int i = 1; i < dict.b.length; i++) {
                if (dict.b[i] == k && model.whole[k] && dict.t[i][0].mod(dict.d).signum() != 0) {
                    r = i;
                }
            }
        }
        if (r == 0) {
            bests++;
            best = point();
            bestZ = dict.z[0];
            bestD = dict.d;
            leaf("bound", dict.z, 0);
        } else if (allWhole() && cutsOnWay < allowed) {
            cut(r, cutsOnWay);
        } else {
            branch(r, cutsOnWay);
        }
    }

    BigInteger[] point() {
        BigInteger[] x = new BigInteger[model.n + 1];
        java.util.Arrays.fill(x, ZERO);
        for (int i = 1; i < dict.b.length; i++) {
            if (dict.b[i] >= 1 && dict.b[i] <= model.n) {
                x[dict.b[i]] = dict.t[i][0];
            }
        }
        return x;
    }

    void write(String text) {
        if (trees.length() > 0) {
            trees.append(' ');
        }
        trees.append(text);
        if (trees.length() > 30000) {
            throw new Stop(6);
        }
    }

    void leaf(String word, BigInteger[] source, int own) {
        StringBuilder text = new StringBuilder(word + " " + dict.d);
        for (int k = 1; k <= rows.size(); k++) {
            BigInteger y = own == model.n + k ? dict.d : ZERO;
            for (int j = 1; j < dict.n.length; j++) {
                y = dict.n[j] == model.n + k ? source[j] : y;
            }
            if (y.signum() != 0) {
                text.append(" " + k + " : " + y);
            }
        }
        write(text + " ;");
    }

    void child(int parentRows) {
        if (parentRows + 1 > 40) {
            throw new Stop(6);
        }
        if (nodes + 1 > 1000) {
            throw new Stop(6);
        }
        nodes++;
        phase = 3;
    }

    void cut(int r, int cutsOnWay) {
        BigInteger[] f = new BigInteger[dict.n.length];
        BigInteger[] turned = new BigInteger[dict.n.length];
        BigInteger[] row = new BigInteger[model.n + 1];
        java.util.Arrays.fill(row, ZERO);
        StringBuilder text = new StringBuilder("cut " + dict.d);
        for (int j = 0; j < f.length; j++) {
            f[j] = dict.t[r][j].mod(dict.d);
            turned[j] = f[j].negate();
        }
        for (int k = 1; k <= rows.size(); k++) {
            for (int j = 1; j < f.length; j++) {
                if (dict.n[j] == model.n + k && f[j].signum() != 0) {
                    text.append(" " + k + " : " + f[j]);
                    for (int v = 0; v <= model.n; v++) {
                        row[v] = row[v].add(f[j].multiply(rows.get(k - 1)[v]));
                    }
                }
            }
        }
        write(text + " ;");
        child(rows.size());
        for (int v = 0; v <= model.n; v++) {
            row[v] = floor(row[v], dict.d);
        }
        cuts++;
        rows.add(row);
        dict.addRow(turned, model.n + rows.size());
        work(cutsOnWay + 1);
    }

    void branch(int r, int cutsOnWay) {
        int k = dict.b[r];
        BigInteger v = floor(dict.t[r][0], dict.d);
        write("branch " + k + " " + v);
        Dict parent = dict.copy();
        List<BigInteger[]> parentRows = new ArrayList<>(rows);
        for (int side = 0; side < 2; side++) {
            child(parentRows.size());
            dict = parent.copy();
            rows = new ArrayList<>(parentRows);
            BigInteger[] coefficients = new BigInteger[model.n + 1];
            java.util.Arrays.fill(coefficients, ZERO);
            BigInteger[] row = new BigInteger[dict.n.length];
            BigInteger up = v.add(ONE);
            coefficients[k] = side == 0 ? ONE : ONE.negate();
            coefficients[0] = side == 0 ? v : up.negate();
            row[0] = side == 0 ? v.multiply(dict.d).subtract(dict.t[r][0])
                : dict.t[r][0].subtract(up.multiply(dict.d));
            for (int j = 1; j < row.length; j++) {
                row[j] = side == 0 ? dict.t[r][j].negate() : dict.t[r][j];
            }
            rows.add(coefficients);
            dict.addRow(row, model.n + rows.size());
            work(cutsOnWay);
        }
    }

    static String fraction(BigInteger a, BigInteger d, String between) {
        BigInteger g = a.gcd(d);
        return a.divide(g) + between + d.divide(g);
    }

    static String shortFraction(BigInteger a, BigInteger d) {
        String text = fraction(a, d, "/");
        return text.endsWith("/1") ? text.substring(0, text.length() - 2) : text;
    }

    String pointText(BigInteger[] x, BigInteger d) {
        BigInteger g = d;
        for (int j = 1; j <= model.n; j++) {
            g = g.gcd(x[j]);
        }
        StringBuilder text = new StringBuilder("at");
        for (int j = 1; j <= model.n; j++) {
            text.append(" " + x[j].divide(g));
        }
        return text + " / " + d.divide(g);
    }

    String optimalHead() {
        BigInteger top = model.max ? bestZ : bestZ.negate();
        return "optimal " + fraction(top, bestD, " / ") + " " + pointText(best, bestD);
    }

    void unbounded() {
        StringBuilder text = new StringBuilder("unbounded " + pointText(point(), dict.d) + " along");
        for (int k = 1; k <= model.n; k++) {
            BigInteger y = dict.n[rayPlace] == k ? dict.d : ZERO;
            for (int i = 1; i < dict.b.length; i++) {
                y = dict.b[i] == k ? dict.t[i][rayPlace].negate() : y;
            }
            text.append(" " + y);
        }
        proof = text + " / 1";
        throw new Stop(4);
    }

    /** All that the house can be asked, in one text. */
    String picture() {
        StringBuilder s = new StringBuilder();
        s.append("status " + status + " pivots " + pivots + " nodes " + nodes + " bests " + bests
            + " cuts " + cuts + " rows " + rows.size() + " depth " + (rows.size() - model.rows.size())
            + " phase " + phase + " proof " + proof.length() + "\n");
        for (int i = 1; i < dict.b.length; i++) {
            s.append(" b" + dict.b[i]);
        }
        for (int j = 1; j < dict.n.length; j++) {
            s.append(" n" + dict.n[j]);
        }
        s.append("\nD " + dict.d + "\n");
        append(s, "w", dict.w);
        append(s, "z", dict.z);
        for (int i = 1; i < dict.t.length; i++) {
            append(s, "t" + i, dict.t[i]);
        }
        for (int k = 1; k <= rows.size(); k++) {
            s.append("row " + k);
            for (BigInteger a : rows.get(k - 1)) {
                s.append(" " + a.longValue());
            }
            s.append("\n");
        }
        s.append("best");
        if (bests > 0) {
            s.append(" " + shortFraction(model.max ? bestZ : bestZ.negate(), bestD));
            for (int j = 1; j <= model.n; j++) {
                s.append(" " + shortFraction(best[j], bestD));
            }
        }
        s.append("\nprices");
        for (int k = 1; k <= rows.size(); k++) {
            BigInteger y = ZERO;
            for (int j = 1; j < dict.n.length; j++) {
                y = dict.n[j] == model.n + k ? dict.z[j] : y;
            }
            s.append(" " + shortFraction(y, dict.d));
        }
        return s.append("\n").toString();
    }

    static void append(StringBuilder s, String name, BigInteger[] row) {
        if (row != null) {
            s.append(name);
            for (BigInteger t : row) {
                s.append(" " + t);
            }
            s.append("\n");
        }
    }

    /** The same picture, asked from a house. */
    static String picture(OptimumHouse h) {
        StringBuilder s = new StringBuilder();
        s.append("status " + h.look(0) + " pivots " + h.look(1) + " nodes " + h.look(2) + " bests "
            + h.look(3) + " cuts " + h.look(4) + " rows " + h.look(5) + " depth " + h.look(6)
            + " phase " + h.look(7) + " proof " + h.look(8) + "\n");
        int n = h.size(0);
        int rows = 0;
        int places = 0;
        for (; h.place(rows + 1) != -1; rows++) {
            s.append(" b" + h.place(rows + 1));
        }
        for (; h.place(-places - 1) != -1; places++) {
            s.append(" n" + h.place(-places - 1));
        }
        s.append("\nD " + Kit.entry(h, -2, 0) + "\n");
        for (int i = -1; i <= rows; i++) {
            if (h.entry(i, 0, 0) != -1) {
                s.append(i < 0 ? "w" : i == 0 ? "z" : "t" + i);
                for (int j = 0; j <= places; j++) {
                    s.append(" " + Kit.entry(h, i, j));
                }
                s.append("\n");
            }
        }
        for (int k = 1; k <= h.look(5); k++) {
            s.append("row " + k);
            for (int j = 0; j <= n; j++) {
                s.append(" " + h.coefficient(k, j));
            }
            s.append("\n");
        }
        s.append("best");
        for (int j = 0; j <= n && h.told(j, 0) != -1; j++) {
            s.append(" " + Kit.told(h, j));
        }
        s.append("\nprices");
        for (int k = 1; k <= h.look(5); k++) {
            s.append(" " + Kit.told(h, -k));
        }
        return s.append("\n").toString();
    }
}
