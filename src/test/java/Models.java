import java.util.Random;

/** Random models, and the texts that tell them. */
final class Models {
    private Models() {
    }

    static ReferenceWork.Model random(Random random) {
        int kind = random.nextInt(8);
        if (kind == 6) {
            return huge(random);
        }
        if (kind == 7) {
            return odd(random);
        }
        ReferenceWork.Model model = new ReferenceWork.Model();
        model.n = kind == 5 ? 8 + random.nextInt(5) : random.nextInt(6);
        int m = kind == 5 ? 6 + random.nextInt(11) : random.nextInt(8);
        int size = kind == 0 ? 3 : kind == 1 ? 10 : kind == 2 ? 99999 : kind == 5 ? 999 : 40;
        int wholes = random.nextInt(4);
        model.max = random.nextBoolean();
        model.whole = new boolean[model.n + 1];
        for (int j = 1; j <= model.n; j++) {
            model.whole[j] = wholes == 0 || wholes == 1 || wholes == 2 && random.nextBoolean();
        }
        boolean packing = random.nextInt(3) > 0;
        model.goal = row(random, model.n, size, packing && model.max || !packing && !model.max);
        if (!model.max) {
            for (int j = 0; j <= model.n; j++) {
                model.goal[j] = -model.goal[j];
            }
        }
        for (int k = 1; k <= m; k++) {
            long[] row = row(random, model.n, size, packing);
            row[0] = random.nextInt(packing ? 8 : 3) == 0 ? -random.nextInt(size * 2) : random.nextInt(size * 2);
            row[0] = Math.max(-99999, Math.min(99999, row[0]));
            model.rows.add(row);
        }
        return model;
    }

    /** Dense rows of great numbers, all of them tight at one point: determinants of up to 57 digits. */
    static ReferenceWork.Model huge(Random random) {
        ReferenceWork.Model model = new ReferenceWork.Model();
        model.n = 9 + random.nextInt(4);
        model.max = true;
        model.whole = new boolean[model.n + 1];
        boolean whole = random.nextInt(3) > 0;
        model.goal = new long[model.n + 1];
        for (int k = 0; k < model.n; k++) {
            long[] row = new long[model.n + 1];
            for (int j = 1; j <= model.n; j++) {
                row[j] = random.nextInt(199999) - 99999;
                row[0] += row[j] * (1 + j % 2);
            }
            row[0] = Math.max(-99999, Math.min(99999, row[0]));
            model.rows.add(row);
            model.whole[k + 1] = whole;
            for (int j = 1; j <= model.n; j++) {
                model.goal[j] += row[j] / model.n;
            }
        }
        return model;
    }

    /** Even numbers that must make an odd one: many NODES, or long proofs. */
    private static ReferenceWork.Model odd(Random random) {
        ReferenceWork.Model model = new ReferenceWork.Model();
        model.n = 4 + random.nextInt(9);
        model.max = random.nextBoolean();
        model.whole = new boolean[model.n + 1];
        model.goal = new long[model.n + 1];
        long[] even = new long[model.n + 1];
        long[] turned = new long[model.n + 1];
        even[0] = 2 * (model.n / 2) + 1;
        for (int j = 1; j <= model.n; j++) {
            model.whole[j] = j > 1 || random.nextBoolean();
            model.goal[j] = random.nextInt(7) - 2;
            even[j] = 2 * (1 + random.nextInt(random.nextBoolean() ? 1 : 3));
            long[] limit = new long[model.n + 1];
            limit[j] = 1;
            limit[0] = 1;
            model.rows.add(limit);
        }
        for (int j = 0; j <= model.n; j++) {
            turned[j] = -even[j];
        }
        model.rows.add(even);
        model.rows.add(turned);
        return model;
    }

    private static long[] row(Random random, int n, int size, boolean above) {
        long[] row = new long[n + 1];
        for (int j = 0; j <= n; j++) {
            row[j] = random.nextInt(4) == 0 ? 0 : random.nextInt(size + 1);
            if (random.nextInt(above ? 8 : 2) == 0) {
                row[j] = -row[j];
            }
        }
        return row;
    }

    static String text(ReferenceWork.Model model, Random random) {
        StringBuilder s = new StringBuilder();
        for (int j = 1; j <= model.n; j++) {
            s.append("var " + name(j) + (model.whole[j] ? " whole;" : ";"));
        }
        s.append(model.max ? "max " : "min ");
        s.append(sum(model.goal, model.n, model.max ? 1 : -1, true)).append(';');
        for (int k = 1; k <= model.rows.size(); k++) {
            long[] row = model.rows.get(k - 1);
            boolean most = random.nextBoolean();
            s.append("row r" + k + ":" + sum(row, model.n, most ? 1 : -1, false) + (most ? "<=" : ">=")
                + (most ? row[0] : -row[0]) + ";");
        }
        return s.toString();
    }

    private static String name(int j) {
        return String.valueOf((char) ('a' + j - 1));
    }

    private static String sum(long[] row, int n, int turn, boolean withNumber) {
        StringBuilder s = new StringBuilder();
        if (withNumber && row[0] != 0) {
            s.append(turn * row[0]);
        }
        for (int j = 1; j <= n; j++) {
            long a = turn * row[j];
            if (a != 0) {
                s.append(a < 0 ? "-" : s.length() > 0 ? "+" : "");
                s.append(Math.abs(a) == 1 ? name(j) : Math.abs(a) + "*" + name(j));
            }
        }
        return s.length() == 0 ? "0" : s.toString();
    }
}
