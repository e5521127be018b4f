import java.math.BigInteger;

/** A house's dictionary as its calls show it, and what the document makes of such a one. */
final class Shown {
    private static final BigInteger[][] NO_ROWS = {};
    int[] basic;
    int[] free;
    BigInteger d;
    BigInteger[] w;
    /** Row 0 is z. */
    BigInteger[][] t = NO_ROWS;

    static Shown of(OptimumHouse house) {
        Shown shown = new Shown();
        int rows = 0;
        int places = 0;
        while (house.place(rows + 1) != OptimumHouse.NONE) {
            rows++;
        }
        while (house.place(-places - 1) != OptimumHouse.NONE) {
            places++;
        }
        shown.basic = new int[rows + 1];
        shown.free = new int[places + 1];
        for (int i = 1; i <= rows; i++) {
            shown.basic[i] = house.place(i);
        }
        for (int j = 1; j <= places; j++) {
            shown.free[j] = house.place(-j);
        }
        shown.d = new BigInteger(Kit.entry(house, -2, 0));
        shown.w = house.entry(-1, 0, 0) == OptimumHouse.NONE ? null : row(house, -1, places);
        shown.t = new BigInteger[rows + 1][];
        for (int i = 0; i <= rows; i++) {
            shown.t[i] = row(house, i, places);
        }
        return shown;
    }

    private static BigInteger[] row(OptimumHouse house, int i, int places) {
        BigInteger[] row = new BigInteger[places + 1];
        for (int j = 0; j <= places; j++) {
            row[j] = new BigInteger(Kit.entry(house, i, j));
        }
        return row;
    }

    int rows() {
        return basic.length - 1;
    }

    int places() {
        return free.length - 1;
    }

    /** B, N and all rows; equal texts are equal dictionaries. */
    String text() {
        StringBuilder text = new StringBuilder(java.util.Arrays.toString(basic) + java.util.Arrays.toString(free)
            + " D " + d + "\n");
        if (w != null) {
            text.append("w " + java.util.Arrays.toString(w) + "\n");
        }
        for (BigInteger[] row : t) {
            text.append(java.util.Arrays.toString(row) + "\n");
        }
        return text.toString();
    }

    /** TO PIVOT at (r, s), as the document's words have it. */
    Shown pivoted(int r, int s) {
        BigInteger p = t[r][s];
        BigInteger g = BigInteger.valueOf(p.signum());
        Shown after = new Shown();
        after.basic = basic.clone();
        after.free = free.clone();
        after.basic[r] = free[s];
        after.free[s] = basic[r];
        after.d = g.multiply(p);
        after.w = w == null ? null : pivotedRow(w, r, s, g);
        after.t = new BigInteger[t.length][];
        for (int i = 0; i < t.length; i++) {
            if (i != r) {
                after.t[i] = pivotedRow(t[i], r, s, g);
                continue;
            }
            after.t[i] = new BigInteger[t[i].length];
            for (int j = 0; j < t[i].length; j++) {
                after.t[i][j] = j == s ? g.multiply(d) : g.multiply(t[r][j]);
            }
        }
        return after;
    }

    private BigInteger[] pivotedRow(BigInteger[] row, int r, int s, BigInteger g) {
        BigInteger[] after = new BigInteger[row.length];
        for (int j = 0; j < row.length; j++) {
            BigInteger number = row[j].multiply(t[r][s]).subtract(row[s].multiply(t[r][j]));
            if (j != s && number.remainder(d).signum() != 0) {
                Kit.fail("a division that doesn't go up");
            }
            after[j] = j == s ? row[s].multiply(g).negate() : g.multiply(number).divide(d);
        }
        return after;
    }

    /** The place of 0 goes (the last one comes in its place), and w. */
    void dropHelper() {
        int gone = 0;
        for (int j = 1; j < free.length; j++) {
            gone = free[j] == 0 ? j : gone;
        }
        int last = free.length - 1;
        free[gone] = free[last];
        free = java.util.Arrays.copyOf(free, last);
        for (int i = 0; i < t.length; i++) {
            t[i][gone] = t[i][last];
            t[i] = java.util.Arrays.copyOf(t[i], last);
        }
        w = null;
    }

    /** Adds a row whose BASIC variable has the next NUMBER. */
    void addRow(int number, BigInteger[] row) {
        basic = java.util.Arrays.copyOf(basic, basic.length + 1);
        basic[basic.length - 1] = number;
        t = java.util.Arrays.copyOf(t, t.length + 1);
        t[t.length - 1] = row;
    }
}
