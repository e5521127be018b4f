import java.math.BigInteger;

/** Terms, 3. THE WORK, sentence by sentence: its LEAVES, CUTS and BRANCHES, and TOO MUCH (promises 9, 10, 13 and 14). */
public final class WorkEdgesTest {
    private static final int NONE = OptimumHouse.NONE;

    private WorkEdgesTest() {
    }

    public static void main(String[] args) {
        nodes();
        empty();
        unbounded();
        notAboveBest();
        roundedDown();
        notRounded();
        best();
        brokenRow();
        cutsAllowed();
        cutNeedsAllWhole();
        cutNumbers();
        branchRows();
        ends();
        fortyRows();
        waiting();
        thousandNodes();
        proofBytes();
        treesBytes();
        treesJustFull();
        Kit.done();
    }

    /** Works to the end; the end and some of what look tells are as due: end, nodes, bests, cuts, rows. */
    private static OptimumHouse solved(String text, int cuts, int... due) {
        OptimumHouse house = Kit.house(text);
        Kit.due("end of " + text, Kit.solve(house, cuts), due[0]);
        int[] what = {0, 2, 3, 4, 5};
        for (int i = 1; i < due.length; i++) {
            Kit.due("look " + what[i] + " of " + text, house.look(what[i]), due[i]);
        }
        if (due[0] <= 4) {
            Kit.due("check of the proof of " + text, Kit.checking(house, Kit.proof(house)), "0");
        }
        return house;
    }

    private static void nodes() {
        Kit.says("the root is the model; a NODE has all rows of the one that it came from, and one more (its place the last one)");
        OptimumHouse house = Kit.house("var x whole;var y whole;max x+y;row a:2*x<=3;row b:2*y<=5;");
        house.begin(0);
        Kit.due("the root is begun", house.look(2), 1);
        Kit.due("its rows", house.look(5), 2);
        Kit.due("it is the root", house.look(6), 0);
        house.work(2);
        Kit.due("a child is begun", house.look(2), 2);
        Kit.due("its rows", house.look(5), 3);
        Kit.due("how far", house.look(6), 1);
        Kit.due("phase", house.look(7), 3);
        Kit.due("its slack", house.place(3), 5);
        Kit.due("no place more", house.place(4), NONE);
        house.work(1);
        Kit.due("a child of the child", house.look(2), 3);
        Kit.due("its rows", house.look(5), 4);
        Kit.due("how far", house.look(6), 2);
        Kit.due("its slack", house.place(4), 6);
        Kit.due("its parent's row", house.coefficient(3, 1), 1);
        Kit.due("its own row", house.coefficient(4, 2), 1);
    }

    private static void empty() {
        Kit.says("empty: a LEAF (its MULTIPLIERS: of PHASE 1 T(w, j) for the slacks N(j); of a STEP DOWN without a place, in "
            + "row i, T(i, j) likewise, and D for B(i) if that is a slack: farkas)");
        OptimumHouse house = solved("var x;max x;row a:3*x<=4;row b:2*x>=5;", 0, 3, 1, 0, 0, 2);
        Kit.due("of phase 1", Kit.proof(house), "infeasible farkas 5 1 : 2 2 : 3 ;");
        house = solved("var x whole;max x;row a:2*x<=3;", 0, 2, 3, 1, 0, 2);
        Kit.due("of a step down, with D for a slack", Kit.proof(house).endsWith("farkas 2 1 : 1 2 : 2 ;"), true);
        Kit.due("B is a slack", house.place(2), 3);
        // Here the row without a place is that of a variable: no D in its farkas.
        house = solved("var x whole;var y whole;max 3*y;row a:y-2*x<=0;row b:4*x+3*y<=3;", 0, 2, 3, 1, 0, 3);
        Kit.due("B is y", house.place(1), 2);
        Kit.due("of a variable's row", Kit.proof(house),
            "optimal 0 / 1 at 0 0 / 1 branch 1 0 bound 1 1 : 3 3 : 6 ; farkas 3 2 : 1 3 : 4 ;");
    }

    private static void unbounded() {
        Kit.says("A RAY: UNBOUNDED (also where points must be whole)");
        OptimumHouse house = solved("var x whole;max x;", 20, 4, 1, 0, 0, 0);
        Kit.due("no value", house.told(0, 0), NONE);
        Kit.due("no point", house.told(1, 0), NONE);
        house = solved("var x whole;var y whole;max x+y;row a:2*x<=1;", 20, 4, 1, 0, 0, 1);
        Kit.due("its point isn't whole", Kit.proof(house), "unbounded at 1 0 / 2 along 0 2 / 1");
    }

    /** y under a roof: x whole, so the best points are left and right of its ridge. */
    private static String roof(String sort, int twiceLevel) {
        return "var x whole;var y" + sort + ";max y;row a:y<=2*x;row b:4*x+2*y<=" + twiceLevel + ";";
    }

    private static void notAboveBest() {
        Kit.says("if there is a BEST and its VALUE isn't above that of the BEST: a LEAF");
        // At x 1 it is 2; at x 2 it is 2 as well, then 5/2.
        OptimumHouse house = solved(roof("", 12), 0, 2, 3, 1, 0);
        Kit.due("the first of two", Kit.told(house, 1), "1");
        house = solved(roof("", 13), 0, 2, 3, 2, 0);
        Kit.due("one that is above", Kit.told(house, 0), "5/2");
        Kit.due("its point", Kit.told(house, 1), "2");
        solved(roof("", 11), 0, 2, 3, 1, 0);
    }

    private static void roundedDown() {
        Kit.says("its VALUE (rounded down, if all variables with c not 0 are WHOLE, and c0 is whole, which it is)");
        OptimumHouse house = solved(roof(" whole", 13), 0, 2, 3, 1, 0);
        Kit.due("5/2 isn't above 2", Kit.told(house, 0), "2");
        house = solved(roof(" whole", 14), 0, 2, 3, 2, 0);
        Kit.due("3 is above 2", Kit.told(house, 0), "3");
        // A variable with c 0 needn't be WHOLE.
        house = solved("var x whole;var y whole;var u;max y;row a:y<=2*x+0*u;row b:4*x+2*y<=13;", 0, 2, 3, 1, 0);
        Kit.due("its value", Kit.told(house, 0), "2");
        // Below 0 rounding down goes away from 0: -3/2 is -2, which isn't above -2.
        house = solved("var x whole;var y whole;max y-4;row a:y<=2*x;row b:4*x+2*y<=13;", 0, 2, 3, 1, 0);
        Kit.due("its value", Kit.told(house, 0), "-2");
        house = solved("var x whole;var y whole;min 4-y;row a:y<=2*x;row b:4*x+2*y<=13;", 0, 2, 3, 1, 0);
        Kit.due("of min", Kit.told(house, 0), "2");
    }

    private static void notRounded() {
        Kit.says("(rounded down, if all variables with c not 0 are WHOLE): not with one that isn't");
        OptimumHouse house = solved(roof("", 13), 0, 2, 3, 2, 0);
        Kit.due("5/2 is above 2", Kit.told(house, 0), "5/2");
        house = solved("var x whole;var y;min 4-y;row a:y<=2*x;row b:4*x+2*y<=13;", 0, 2, 3, 2, 0);
        Kit.due("of min", Kit.told(house, 0), "3/2");
    }

    private static void best() {
        Kit.says("if all WHOLE ones of its POINT are whole: it is the BEST, and a LEAF");
        OptimumHouse house = solved("var x;var y whole;max 2*x+y;row a:2*x<=1;row b:y<=3;", 20, 2, 1, 1, 0);
        Kit.due("x needn't be", Kit.told(house, 1), "1/2");
        Kit.due("y is", Kit.told(house, 2), "3");
        solved("var x whole;max x;row a:3*x<=6;", 20, 2, 1, 1, 0);
        solved("max 3;", 20, 2, 1, 1, 0, 0);
        Kit.says("look 3: how often there was a new BEST");
        house = Kit.house(roof("", 13));
        house.begin(0);
        Kit.due("before", house.look(3), 0);
        Kit.due("no value", house.told(0, 0), NONE);
        for (int i = 0; i < 100 && house.look(3) == 0; i++) {
            house.work(1);
        }
        Kit.due("it goes on", house.look(0), 1);
        Kit.due("the first value", Kit.told(house, 0), "2");
        Kit.due("no proof yet", house.look(8), 0);
        house.work(500);
        Kit.due("after", house.look(3), 2);
        Kit.due("the second value", Kit.told(house, 0), "5/2");
    }

    private static void brokenRow() {
        Kit.says("r is the row of the WHOLE BASIC variable with the least NUMBER whose T(r, 0) / D isn't whole");
        branchAt("var x whole;var y whole;max 2*x+y;row a:2*x<=3;row b:2*y<=5;", "branch 1 1 ");
        branchAt("var x whole;var y whole;max x+2*y;row b:2*y<=5;row a:2*x<=3;", "branch 1 1 ");
        branchAt("var x whole;var y whole;max x+y;row a:2*x<=4;row b:2*y<=5;", "branch 2 2 ");
        branchAt("var x;var y whole;max x+y;row a:2*x<=3;row b:2*y<=5;", "branch 2 2 ");
        branchAt("var x whole;max x;row a:2*x<=1;", "branch 1 0 ");
        branchAt("set S=1..12;var x[S]whole;max x[12];row a:2*x[12]<=7;", "branch 12 3 ");
    }

    private static void branchAt(String text, String due) {
        OptimumHouse house = Kit.house(text);
        Kit.solve(house, 0);
        String proof = Kit.proof(house);
        int at = proof.indexOf("branch");
        Kit.due("first branch of " + text, at < 0 ? proof : proof.substring(at, at + due.length()), due);
    }

    private static final String MANY_CUTS = "var x whole;var y whole;max 4*x+2*y;row a:2*x+18*y<=193;row b:8*x+3*y<=120;";

    private static void cutsAllowed() {
        Kit.says("If all n variables are WHOLE, and the way from the root to here has fewer cuts than are allowed: a CUT");
        int[] nodes = new int[21];
        for (int cuts = 0; cuts <= 20; cuts++) {
            OptimumHouse house = Kit.house(MANY_CUTS);
            Kit.due("optimal", Kit.solve(house, cuts), 2);
            String[] words = Kit.proof(house).split(" ");
            int made = 0;
            boolean branched = false;
            for (String word : words) {
                Kit.due("no cut below a branch", branched && word.equals("cut"), false);
                branched = branched || word.equals("branch");
                made += word.equals("cut") ? 1 : 0;
            }
            Kit.due("cuts of " + cuts, made, cuts);
            Kit.due("look 4", house.look(4), cuts);
            Kit.due("then branches", branched, true);
            Kit.due("check", Kit.checking(house, Kit.proof(house)), "0");
            nodes[cuts] = house.look(2);
        }
        Kit.due("nodes with 20", nodes[20], 25);
        Kit.due("nodes with 19", nodes[19], 24);
        Kit.says("cuts that are allowed needn't be made");
        solved("var x whole;max x;row a:2*x<=3;", 20, 2, 2, 1, 1, 2);
        solved("var x whole;max x;row a:2*x<=3;", 1, 2, 2, 1, 1, 2);
        solved("var x whole;max x;row a:2*x<=3;", 0, 2, 3, 1, 0, 2);
    }

    private static void cutNeedsAllWhole() {
        Kit.says("If all n variables are WHOLE .. Otherwise a BRANCH");
        solved("var x whole;var y whole;max x;row a:2*x<=3;row b:y<=1;", 20, 2, 2, 1, 1);
        solved("var x whole;var y;max x;row a:2*x<=3;row b:y<=1;", 20, 2, 3, 1, 0);
        solved("var y;var x whole;max x;row a:2*x<=3;", 20, 2, 3, 1, 0);
    }

    private static void cutNumbers() {
        Kit.says("with F(j) = T(r, j) less the greatest multiple of D that isn't above it (j from 0 on), the row more has T "
            + "-F(j); its coefficients are, rounded down, the sum over the slacks N(j), of F(j) / D times the row's, and its "
            + "bound likewise");
        OptimumHouse house = Kit.house("var x whole;var y whole;max 3*x+2*y;row a:4*x+y<=9;row b:x+3*y<=7;");
        house.begin(20);
        house.work(2);
        // D x = 20 - 3 a + b, D 11: F is 9, 3, and of -1, which is below 0, 10.
        Kit.due("T", Shown.of(house).text(), "[0, 1, 2, 5][0, 3, 4] D 11\n[98, 7, 5]\n[20, 3, -1]\n[19, -1, 4]\n[-9, -3, -10]\n");
        // (3 (4 x + y) + 10 (x + 3 y)) / 11: 22/11 and 33/11, at most 97/11.
        Kit.due("x", house.coefficient(3, 1), 2);
        Kit.due("y", house.coefficient(3, 2), 3);
        Kit.due("bound", house.coefficient(3, 0), 8);
        Kit.due("cuts", house.look(4), 1);
        Kit.due("optimal", Kit.solve(house, 20), 2);
        Kit.due("its pairs", Kit.proof(house).contains("cut 11 1 : 3 2 : 10 ; "), true);
        Kit.says("its coefficients are, rounded down: below 0, too");
        // From 3 y - 3 x at most 1 and x at most 2: a row with a coefficient below 0.
        house = Kit.house("var x whole;var y whole;max y;row a:3*y-2*x<=2;row b:3*x<=7;");
        house.begin(20);
        house.work(2);
        Shown shown = Shown.of(house);
        BigInteger d = shown.d;
        Kit.due("a cut", house.look(4), 1);
        for (int j = 0; j <= 2; j++) {
            BigInteger sum = BigInteger.ZERO;
            for (int s = 1; s <= shown.places(); s++) {
                int k = shown.free[s] - 2;
                if (k >= 1) {
                    BigInteger f = shown.t[3][s].negate();
                    sum = sum.add(f.multiply(BigInteger.valueOf(house.coefficient(k, j))));
                }
            }
            BigInteger[] parts = sum.divideAndRemainder(d);
            long due = parts[0].longValue() - (parts[1].signum() < 0 ? 1 : 0);
            Kit.due("coefficient " + j, house.coefficient(3, j), due);
        }
    }

    private static void branchRows() {
        Kit.says("a BRANCH at v, T(r, 0) / D rounded down: first the child with the row x at most v (T(i, 0): v D - T(r, 0), "
            + "T(i, j): -T(r, j)), and when all below that is done, the one with x at least v + 1 (-x at most -v - 1: T(r, 0) "
            + "- (v + 1) D, T(r, j))");
        OptimumHouse house = Kit.house("var x whole;var y;max 3*x+2*y;row a:4*x+y<=9;row b:x+3*y<=7;");
        house.begin(0);
        house.work(2);
        Kit.due("first", Shown.of(house).text(), "[0, 1, 2, 5][0, 3, 4] D 11\n[98, 7, 5]\n[20, 3, -1]\n[19, -1, 4]\n[-9, -3, 1]\n");
        Kit.due("at most 1: a", house.coefficient(3, 1), 1);
        Kit.due("at most 1: b", house.coefficient(3, 0), 1);
        Kit.due("of y", house.coefficient(3, 2), 0);
        Kit.due("nodes", house.look(2), 2);
        house.work(1);
        Kit.due("second", Shown.of(house).text(), "[0, 1, 2, 5][0, 3, 4] D 11\n[98, 7, 5]\n[20, 3, -1]\n[19, -1, 4]\n[-2, 3, -1]\n");
        Kit.due("at least 2: a", house.coefficient(3, 1), -1);
        Kit.due("at least 2: b", house.coefficient(3, 0), -2);
        Kit.due("of y", house.coefficient(3, 2), 0);
        Kit.due("nodes", house.look(2), 3);
        Kit.due("rows", house.look(5), 3);
        Kit.due("optimal", house.work(500) > 0 && house.look(0) == 2, true);
        Kit.says("a BRANCH at v: 0, too");
        house = Kit.house("var x whole;max x;row a:2*x<=1;");
        house.begin(0);
        house.work(1);
        Kit.due("at most 0: b", house.coefficient(2, 0), 0);
        Kit.due("at most 0: a", house.coefficient(2, 1), 1);
        house.work(1);
        Kit.due("at least 1: b", house.coefficient(2, 0), -1);
        Kit.due("at least 1: a", house.coefficient(2, 1), -1);
    }

    private static void ends() {
        Kit.says("When all is done: OPTIMAL, if there is a BEST, else INFEASIBLE");
        solved("var x whole;max x;row a:2*x<=3;", 0, 2, 3, 1, 0);
        solved("var x whole;max x;row a:3*x<=2;row b:3*x>=1;", 0, 3, 3, 0, 0);
        solved("var x whole;max x;row a:3*x<=2;row b:3*x>=1;", 20, 3, 2, 0, 1);
        // A BEST of the first child stands though the last NODE is empty.
        OptimumHouse house = solved("var x whole;max x;row a:2*x<=3;", 0, 2);
        Kit.due("the last leaf", Kit.proof(house).contains("farkas"), true);
    }

    private static void fortyRows() {
        Kit.says("TOO MUCH: a 41st row");
        String text = "var x whole;var y whole;max 0;row a:2*x-2*y=1;row b:x<=18;row c:0<=0;";
        OptimumHouse house = Kit.house(text);
        house.begin(0);
        int most = 0;
        for (int i = 0; i < 1000 && house.look(0) == 1; i++) {
            house.work(1);
            most = Math.max(most, house.look(5));
        }
        Kit.due("40 rows", most, 40);
        Kit.due("are not too much", house.look(0), 3);
        Kit.due("nodes", house.look(2), 73);
        Kit.due("check", Kit.checking(house, Kit.proof(house)), "0");
        house = solved(text + "row d:0<=0;", 0, 6);
        stopped(house, text + "row d:0<=0;");
        Kit.due("the latest node's rows", house.look(5), 40);
        Kit.due("how far", house.look(6), 35);
        Kit.due("no proof", house.look(8), 0);
        Kit.due("no byte", house.proof(0), NONE);
        Kit.due("no work more", house.work(1), 0);
        Kit.due("its dictionary is there", house.place(40) != NONE, true);
        Kit.due("no row more", house.place(41), NONE);
        Kit.due("its row 40", house.coefficient(40, 0) != 0, true);
        Kit.due("anew", house.begin(0), true);
        Kit.due("it goes on", house.look(0), 1);
    }

    /** A way of first children alone, from the top down: the second children of all NODES with 3 to 39 rows wait. */
    private static void waiting() {
        Kit.says("first the child with the row x at most v, and when all below that is done, the one with x at least v + 1");
        String text = "var x whole;var y whole;max x+y;row a:2*x-2*y=1;row b:2*x<=37;";
        OptimumHouse house = Kit.house(text);
        house.begin(0);
        int most = 0;
        for (int i = 0; i < 1000 && house.look(0) == 1; i++) {
            house.work(1);
            most = Math.max(most, house.look(5));
            if (house.look(5) == 39) {
                Kit.due("no second child has begun", house.look(2), 37);
            }
        }
        Kit.due("rows", most, 40);
        Kit.due("infeasible", house.look(0), 3);
        ReferenceWork reference = new ReferenceWork(ReferenceTell.model(text), 0);
        reference.run();
        Kit.due("as the reference has it", ReferenceWork.picture(house), reference.pictures.get(reference.pictures.size() - 1));
        Kit.due("proof", Kit.proof(house), reference.proof);
        Kit.due("check", Kit.checking(house, Kit.proof(house)), "0");
    }

    private static void thousandNodes() {
        Kit.says("TOO MUCH: a 1,001st NODE");
        String text = "set S=1..4;par c[S]=5,8,8,1;par e[S]=4,4,6,6;var x[S]whole;max sum i in S(c[i]*x[i]);"
            + "row b:sum i in S(e[i]*x[i])=";
        solved(text + "51;", 1, 3, 1000, 0, 1);
        OptimumHouse house = solved(text + "53;", 1, 6, 1000, 0, 1);
        Kit.due("rows are not the reason", house.look(5) < 40, true);
        Kit.due("no proof", house.look(8), 0);
        Kit.due("no work more", house.work(500), 0);
        solved(text + "49;", 0, 6, 1000, 0, 0);
        solved(text + "47;", 0, 3, 889, 0, 0);
    }

    private static final String LONG = "set S=1..8;par c[S]=4,0,5,7,3,1,3,5;par e[S]=4,6,6,8,3,6,2,5;var x[S]whole;var y;var u;";

    private static void proofBytes() {
        Kit.says("TOO MUCH: a proof of more than 30,000 bytes (when it is whole)");
        String rest = "sum i in S(c[i]*x[i]);row b:sum i in S(e[i]*x[i])=41;";
        OptimumHouse house = solved(LONG + "max " + rest, 0, 2, 975);
        Kit.due("30,000 bytes", house.look(8), 30000);
        Kit.due("the last one", house.proof(29999), ';');
        Kit.due("none behind it", house.proof(30000), NONE);
        house = solved(LONG + "max 100+" + rest, 0, 6, 975);
        Kit.due("30,001 bytes", house.look(8), 0);
        Kit.due("no byte", house.proof(0), NONE);
        Kit.due("the best is told", Kit.told(house, 0).length(), 3);
        house = solved(LONG.replace("var u;", "") + "max 100+" + rest, 0, 2, 975);
        Kit.due("29,999 bytes", house.look(8), 29999);
    }

    /** The work stopped where the second reading of the document stops. */
    private static void stopped(OptimumHouse house, String text) {
        ReferenceWork reference = new ReferenceWork(ReferenceTell.model(text), 0);
        reference.run();
        Kit.due("where it stopped", ReferenceWork.picture(house), reference.pictures.get(reference.pictures.size() - 1));
    }

    private static void treesBytes() {
        Kit.says("TOO MUCH: a proof of more than 30,000 bytes (as soon as its TREES are)");
        String text = "set S=1..11;par c[S]=7,1,8,1,5,4,1,4,4,7,8;var x[S]whole;max sum i in S(c[i]*x[i]);"
            + "row a[i in S]:x[i]<=1;row b:sum i in S(2*x[i])=11;";
        OptimumHouse house = solved(text, 0, 6);
        Kit.due("fewer nodes", house.look(2) < 1000, true);
        Kit.due("fewer rows", house.look(5) < 40, true);
        stopped(house, text);
        // Here it is the word branch that makes them too much: its child doesn't begin.
        text = "set S=1..11;par c[S]=5,2,2,8,5,8,1,3,3,6,4;par e[S]=4,6,8,6,6,4,6,2,6,4,4;var x[S]whole;"
            + "max sum i in S(c[i]*x[i]);row a[i in S]:x[i]<=1;row b:sum i in S(e[i]*x[i])=37;";
        house = solved(text, 0, 6, 651);
        stopped(house, text);
        // TREES of 30,000 bytes aren't more: the work is done, and the word ahead makes it too much.
        house = solved("set S=1..10;par c[S]=2,8,2,0,6,1,2,1,5,0;par e[S]=8,8,6,4,8,8,4,8,8,6;var x[S]whole;"
            + "max sum i in S(c[i]*x[i]);row a[i in S]:x[i]<=1;row b:sum i in S(e[i]*x[i])=37;", 0, 6, 711);
        Kit.due("no proof", house.look(8), 0);
    }

    private static void treesJustFull() {
        Kit.says("TOO MUCH: a proof of more than 30,000 bytes: TREES of just so many aren't, ahead of a PIVOT");
        String text = "var x1 whole;var x2 whole;var x3 whole;var x4 whole;var x5 whole;var x6 whole;var x7 whole;"
            + "max -3*x1-2*x2-2*x3-2*x4-4*x5+x6-x7;row r1:6*x1+2*x2+4*x3-6*x4-4*x5+4*x6+2*x7=71;"
            + "row r2:x2<=10;row r3:x3<=3;row r4:x6<=8;";
        justFull(text, 3000, 3007, 6);
        Kit.says("TOO BIG: the PIVOT isn't counted: also with TREES of just 30,000 bytes, which aren't TOO MUCH");
        // With b at most 0 nothing goes; with b at least 1 each x is at least 97510 times the one before.
        text = "set S=1..10;set T=1..9;par c[S]=5,4,7,2,8,3,1,2,4,6;par e[S]=2,4,2,4,4,2,2,2,2,4;"
            + "var b whole;var y whole;var x[S]whole;max 25*b+sum i in S(c[i]*x[i])-99999*y;"
            + "row p:x[1]>=99998*b-49999;row q[i in T]:x[i+1]>=97510*x[i]-97510+97510*b;"
            + "row o:4*sum i in S(e[i]*x[i])-32*y=92;row u:11*x[10]<=11+11*y;";
        justFull(text, 1282, 1283, 5);
    }

    /** Behind so many PIVOTS the TREES are just 30,000 bytes, first; the work ends behind pivotsInAll. */
    private static void justFull(String text, int pivots, int pivotsInAll, int end) {
        ReferenceWork reference = new ReferenceWork(ReferenceTell.model(text), 0);
        reference.run();
        Kit.due("TREES are just full first behind so many", reference.treesBytes.indexOf(30000), pivots);
        OptimumHouse house = Kit.house(text);
        house.begin(0);
        for (int asked = 0; asked < pivots; asked += 500) {
            house.work(Math.min(500, pivots - asked));
        }
        for (int done = pivots; done < pivotsInAll; done++) {
            Kit.due("TREES after pivot " + done, reference.treesBytes.get(done), 30000);
            Kit.due("after pivot " + done, ReferenceWork.picture(house), reference.pictures.get(done));
            Kit.due("it goes on", house.look(0), 1);
            Kit.due("no proof yet", house.look(8), 0);
            Kit.due("the next PIVOT", house.work(1), 1);
        }
        // TOO BIG shows when the PIVOT is tried; till then the work goes on.
        Kit.due("behind the last PIVOT", house.look(0), end == 5 ? 1 : end);
        Kit.due("no PIVOT more", house.work(500), 0);
        Kit.due("pivots in all", house.look(1), pivotsInAll);
        Kit.due("end", house.look(0), end);
        Kit.due("it stays", house.work(1), 0);
        Kit.due("at the end", ReferenceWork.picture(house), reference.pictures.get(reference.pictures.size() - 1));
    }
}
