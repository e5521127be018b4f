import java.math.BigInteger;
import java.util.Random;

/** Promise 15: check, each FAULT with its PLACE and its edges. */
public final class CheckTest {
    private static final String PLAIN = "var x;var y;max 3*x+2*y;row a:x+y<=4;row b:x+3*y<=6;row c:x<=3;";
    private static final String WHOLE = "var x whole;max x;row a:2*x<=3;";
    private static final String EMPTY = "var x whole;var y;max x;row a:x<=1;row b:x>=3;";
    private static final String LOWEST = "var x;min 2*x+1;row a:3*x>=2;";
    private static final String RAY = "var x whole;var y;max x+y;row a:x-y<=2;";
    private static OptimumHouse house;

    private CheckTest() {
    }

    private static void model(String text) {
        house = Kit.house(text);
    }

    private static void fine(String text) {
        Kit.holds(house, text);
    }

    private static void fault(int kind, String text) {
        Kit.breaks(house, kind, text);
    }

    public static void main(String[] args) {
        tokens();
        grammar();
        values();
        points();
        bounds();
        rounded();
        farkas();
        branches();
        cuts();
        along();
        order();
        much();
        digits();
        divisions();
        keeps();
        Kit.done();
    }

    private static void tokens() {
        model(PLAIN);
        fine("optimal 11 / 1 at 3 1 / 1 bound 1 1 : 2 3 : 1 ;");
        fine("optimal11/1at3 1/1bound1 1:2 3:1;");
        fine("\n optimal\n11 / 1 at 3 1 / 1 bound 1 1 : 2 3 : 1 ;\n ");
        fine("optimal 011 / 01 at 003 1 / 1 bound 1 01 : 02 3 : 1 ;");
        fine("optimal 22 / 2 at 9 3 / 3 bound 5 1 : 10 3 : 5 ;");
        fault(1, "^Optimal 11 / 1 at 3 1 / 1 bound 1 1 : 2 3 : 1 ;");
        fault(1, "^optimalx 11 / 1 at 3 1 / 1 bound 1 1 : 2 3 : 1 ;");
        fault(1, "optimal ^-0 / 1 at 3 1 / 1 bound 1 1 : 2 3 : 1 ;");
        fault(1, "optimal ^-00 / 1 at 3 1 / 1 bound 1 1 : 2 3 : 1 ;");
        fault(3, "^optimal -01 / 1 at 3 1 / 1 bound 1 1 : 2 3 : 1 ;");
        fault(1, "optimal ^- 1 / 1 at 3 1 / 1 bound 1 1 : 2 3 : 1 ;");
        fault(1, "optimal ^--1 / 1 at 3 1 / 1 bound 1 1 : 2 3 : 1 ;");
        fault(1, "optimal ^+1 / 1 at 3 1 / 1 bound 1 1 : 2 3 : 1 ;");
        fault(1, "optimal 1^.0 / 1 at 3 1 / 1 bound 1 1 : 2 3 : 1 ;");
        fault(1, "optimal 11 /^\t1 at 3 1 / 1 bound 1 1 : 2 3 : 1 ;");
        fault(1, "optimal ^\u00ff / 1 at 3 1 / 1 bound 1 1 : 2 3 : 1 ;");
        String nine = "9".repeat(60);
        fault(3, "^optimal " + nine + " / 1 at 3 1 / 1 bound 1 1 : 2 3 : 1 ;");
        fault(1, "optimal ^9" + nine + " / 1 at 3 1 / 1 bound 1 1 : 2 3 : 1 ;");
        fault(3, "^optimal -" + nine + " / 1 at 3 1 / 1 bound 1 1 : 2 3 : 1 ;");
        fault(1, "optimal ^-9" + nine + " / 1 at 3 1 / 1 bound 1 1 : 2 3 : 1 ;");
        fault(1, "optimal ^" + "0".repeat(59) + "11 / 1 at 3 1 / 1 bound 1 1 : 2 3 : 1 ;");
        fine("optimal " + "0".repeat(58) + "11 / 1 at 3 1 / 1 bound 1 1 : 2 3 : 1 ;");
    }

    private static void grammar() {
        model(PLAIN);
        fault(1, "^");
        fault(1, "  ^");
        fault(1, "^bound 1 1 : 2 3 : 1 ;");
        fault(1, "^5");
        fault(1, "optimal^");
        fault(1, "optimal ^at");
        fault(1, "optimal 11 ^at 3 1 / 1 bound 1 ;");
        fault(1, "optimal 11 / ^0 at 3 1 / 1 bound 1 ;");
        fault(1, "optimal 11 / ^-1 at 3 1 / 1 bound 1 ;");
        fault(1, "optimal 11 / ^000 at 3 1 / 1 bound 1 ;");
        fault(1, "optimal 11 / 1 ^3 1 / 1 bound 1 ;");
        fault(1, "optimal 11 / 1 at 3 ^/ 1 bound 1 ;");
        fault(1, "optimal 11 / 1 at 3 1 ^2 / 1 bound 1 ;");
        fault(1, "optimal 11 / 1 at 3 1 / ^0 bound 1 ;");
        fault(1, "optimal 11 / 1 at 3 1 / ^-2 bound 1 ;");
        fault(1, "optimal 11 / 1 at 3 1 / 1^");
        fault(1, "optimal 11 / 1 at 3 1 / 1 ^along 1 1 / 1");
        fault(1, "optimal 11 / 1 at 3 1 / 1 bound ^;");
        fault(1, "optimal 11 / 1 at 3 1 / 1 bound ^0 ;");
        fault(1, "optimal 11 / 1 at 3 1 / 1 bound ^-1 ;");
        fault(1, "optimal 11 / 1 at 3 1 / 1 bound 1 1 ^;");
        fault(1, "optimal 11 / 1 at 3 1 / 1 bound 1 1 : ^;");
        fault(1, "optimal 11 / 1 at 3 1 / 1 bound 1 1 : 2 ^: 3 ;");
        fault(1, "optimal 11 / 1 at 3 1 / 1 bound 1 1 : 2 3 : 1^");
        fault(1, "optimal 11 / 1 at 3 1 / 1 bound 1 1 : 2 3 : 1 ; ^;");
        fault(1, "optimal 11 / 1 at 3 1 / 1 bound 1 1 : 2 3 : 1 ; ^bound 1 ;");
        fault(1, "infeasible ^at 1 1 / 1");
        fault(1, "infeasible branch ^;");
        fault(1, "infeasible branch 1 ^farkas 1 ;");
        fault(1, "infeasible branch 1 1 farkas 1 ;^");
        fault(1, "infeasible branch 1 1 farkas 1 ; farkas 1 ; ^farkas 1 ;");
        fault(1, "infeasible cut 1 ;^");
        fault(1, "infeasible cut ^0 ; farkas 1 ;");
        fault(1, "unbounded ^3 1 / 1 along 1 1 / 1");
        fault(1, "unbounded at 3 1 / 1^");
        fault(1, "unbounded at 3 1 / 1 ^at 1 1 / 1");
        fault(1, "unbounded at 3 1 / 1 along 1 ^/ 1");
        fault(1, "unbounded at 3 1 / 1 along 1 1 / ^0");
        fault(1, "unbounded at 3 1 / 1 along 1 1 / 1 ^farkas 1 ;");
        fault(1, "unbounded at 3 1 / 1 along 1 1 / 1 ^;");
    }

    private static void values() {
        model(PLAIN);
        fault(3, "^optimal 10 / 1 at 3 1 / 1 bound 1 1 : 2 3 : 1 ;");
        fault(3, "^optimal 11 / 2 at 3 1 / 1 bound 1 1 : 2 3 : 1 ;");
        fault(3, "^optimal -11 / 1 at 3 1 / 1 bound 1 1 : 2 3 : 1 ;");
        fault(3, "  ^optimal 11 / 1 at 3 1 / 2 bound 1 1 : 2 3 : 1 ;");
        // 3 of optimal comes ahead of 2, and both ahead of the TREE.
        fault(3, "^optimal 12 / 1 at 9 9 / 1 bound 1 ;");
        model(LOWEST);
        fine("optimal 7 / 3 at 2 / 3 bound 3 1 : 2 ;");
        fine("optimal 14 / 6 at 4 / 6 bound 3 1 : 2 ;");
        fault(3, "^optimal -7 / 3 at 2 / 3 bound 3 1 : 2 ;");
    }

    private static void points() {
        model(PLAIN);
        fault(2, "optimal 14 / 1 ^at 4 1 / 1 bound 1 1 : 9 3 : 9 ;");
        fault(2, "optimal 7 / 1 ^at 3 -1 / 1 bound 1 1 : 9 3 : 9 ;");
        fault(4, "optimal 0 / 1 at 0 0 / 1 ^bound 1 1 : 2 3 : 1 ;");
        model(WHOLE);
        fault(2, "optimal 3 / 2 ^at 3 / 2 bound 2 1 : 1 ;");
        fine("optimal 1 / 1 at 3 / 3 cut 2 1 : 1 ; bound 1 2 : 1 ;");
        fault(2, "optimal 2 / 1 ^at 2 / 1 bound 1 1 : 1 ;");
    }

    private static void bounds() {
        model(PLAIN);
        String head = "optimal 11 / 1 at 3 1 / 1 ";
        fault(4, head + "^bound 1 1 : 2 3 : 2 ;");
        fault(4, head + "^bound 1 1 : 2 ;");
        fault(4, head + "^bound 1 1 : 1 3 : 2 ;");
        fault(4, head + "^bound 2 1 : 2 3 : 1 ;");
        fault(4, head + "^bound 1 0 : 1 1 : 2 3 : 1 ;");
        fault(4, head + "^bound 1 1 : 2 3 : 1 4 : 0 ;");
        fault(4, head + "^bound 1 1 : 2 3 : 1 99999999999999999999 : 0 ;");
        fault(4, head + "^bound 1 -1 : 0 1 : 2 3 : 1 ;");
        fault(4, head + "^bound 1 3 : 1 1 : 2 ;");
        fault(4, head + "^bound 1 1 : 2 1 : 2 3 : 1 ;");
        fault(4, head + "^bound 1 1 : 2 2 : -1 3 : 1 ;");
        fine(head + "bound 1 1 : 2 2 : 0 3 : 1 ;");
        fault(4, head + "^bound 1 ;");
        // The sums of y a may be above q c.
        model("var x;var y;max x;row a:x+y<=4;");
        fine("optimal 4 / 1 at 4 0 / 1 bound 1 1 : 1 ;");
        fault(4, "optimal 3 / 1 at 3 0 / 1 ^bound 1 1 : 1 ;");
        model(LOWEST);
        fault(4, "optimal 3 / 1 at 1 / 1 ^bound 3 1 : 2 ;");
        fault(4, "optimal 7 / 3 at 2 / 3 ^bound 3 1 : 3 ;");
        fault(4, "optimal 7 / 3 at 2 / 3 ^bound 3 1 : 1 ;");
    }

    /** A bound is rounded down where the goal's variables are WHOLE, and only there. */
    private static void rounded() {
        model("var x whole;var y;max x;row a:2*x+y<=3;");
        fine("optimal 1 / 1 at 1 0 / 1 bound 2 1 : 1 ;");
        model("var x whole;var y;max x+y;row a:2*x+2*y<=3;");
        fault(4, "optimal 1 / 1 at 1 0 / 1 ^bound 2 1 : 1 ;");
        fine("optimal 3 / 2 at 2 1 / 2 bound 2 1 : 1 ;");
        model("var x whole;min x-4;row a:2*x>=3;");
        fine("optimal -2 / 1 at 2 / 1 bound 2 1 : 1 ;");
        fault(4, "optimal -1 / 1 at 3 / 1 ^bound 2 1 : 1 ;");
    }

    private static void farkas() {
        model(EMPTY);
        fine("infeasible farkas 2 1 : 1 2 : 1 ;");
        fine("infeasible farkas 1 1 : 5 2 : 5 ;");
        fine("infeasible farkas 1 1 : 2 2 : 2 ;");
        fault(4, "infeasible ^farkas 1 1 : 1 2 : 2 ;");
        fault(4, "infeasible ^farkas 1 1 : 3 2 : 1 ;");
        fault(4, "infeasible ^farkas 1 ;");
        fault(4, "infeasible ^bound 1 1 : 1 ;");
        fault(4, "infeasible ^farkas 1 1 : 1 2 : 1 3 : 0 ;");
        model("var x;max x;row a:x<=1;row b:x>=1;");
        fault(4, "infeasible ^farkas 1 1 : 1 2 : 1 ;");
    }

    private static void branches() {
        model(WHOLE);
        String head = "optimal 1 / 1 at 1 / 1 ";
        fine(head + "branch 1 1 bound 1 2 : 1 ; farkas 2 1 : 1 2 : 2 ;");
        fine(head + "branch 1 0 bound 1 2 : 1 ; branch 1 1 bound 1 3 : 1 ; farkas 2 1 : 1 3 : 2 ;");
        fault(4, head + "branch 1 1 bound 1 2 : 1 ; ^farkas 2 1 : 1 2 : 1 ;");
        fault(4, head + "branch 1 2 ^bound 1 2 : 1 ; farkas 2 1 : 1 2 : 2 ;");
        fault(4, head + "branch 1 1 bound 1 2 : 1 ; ^bound 1 2 : 1 ;");
        fault(4, head + "branch 1 1 ^bound 1 3 : 1 ; farkas 2 1 : 1 2 : 2 ;");
        fault(4, head + "^branch 0 1 bound 1 2 : 1 ; farkas 2 1 : 1 2 : 2 ;");
        fault(4, head + "^branch 2 1 bound 1 2 : 1 ; farkas 2 1 : 1 2 : 2 ;");
        fault(4, head + "^branch -1 1 bound 1 2 : 1 ; farkas 2 1 : 1 2 : 2 ;");
        fault(4, head + "^branch 4294967297 1 bound 1 2 : 1 ; farkas 2 1 : 1 2 : 2 ;");
        fine(head + "branch 0001 1 bound 1 2 : 1 ; farkas 2 1 : 1 2 : 2 ;");
        fine(head + "branch 1 -1 farkas 1 2 : 1 ; branch 1 1 bound 1 3 : 1 ; farkas 2 1 : 1 3 : 2 ;");
        model(EMPTY);
        fine("infeasible branch 1 2 farkas 1 2 : 1 3 : 1 ; farkas 1 1 : 1 3 : 1 ;");
        fault(4, "infeasible ^branch 2 2 farkas 1 2 : 1 3 : 1 ; farkas 1 1 : 1 3 : 1 ;");
    }

    private static void cuts() {
        model(WHOLE);
        String head = "optimal 1 / 1 at 1 / 1 ";
        fine(head + "cut 2 1 : 1 ; bound 1 2 : 1 ;");
        fault(4, head + "^cut 2 1 : -1 ; bound 1 2 : 1 ;");
        fault(4, head + "^cut 2 2 : 1 ; bound 1 2 : 1 ;");
        fault(4, head + "cut 3 1 : 1 ; ^bound 1 2 : 1 ;");
        fault(4, head + "cut 2 ; ^bound 1 2 : 1 ;");
        // Below 0 it is rounded down, too: -2 x at most -3, over 2, is -x at most -2.
        model("var x whole;max 0;row a:2*x=3;");
        fine("infeasible cut 2 1 : 1 ; cut 2 2 : 1 ; farkas 1 3 : 1 4 : 1 ;");
        fault(4, "infeasible cut 2 1 : 1 ; cut 3 2 : 1 ; ^farkas 1 3 : 2 4 : 1 ;");
        model(EMPTY);
        fault(4, "infeasible ^cut 1 1 : 1 2 : 1 ; farkas 1 3 : 1 ;");
        model("max 1;row a:1>=2;");
        fine("infeasible cut 1 1 : 1 ; farkas 1 2 : 1 ;");
    }

    private static void along() {
        model(RAY);
        fine("unbounded at 2 0 / 1 along 1 1 / 1");
        fine("unbounded at 0 0 / 7 along 0 1 / 9");
        // Not whole where it must be: that isn't asked of unbounded.
        fine("unbounded at 1 0 / 2 along 1 1 / 2");
        fault(2, "unbounded ^at 3 0 / 1 along 1 1 / 1");
        fault(2, "unbounded ^at -1 0 / 1 along 1 1 / 1");
        fault(5, "unbounded at 2 0 / 1 ^along 2 1 / 1");
        fault(5, "unbounded at 2 0 / 1 ^along 0 0 / 1");
        fault(5, "unbounded at 2 0 / 1 ^along -1 5 / 1");
        fault(2, "unbounded ^at 3 0 / 1 along 0 0 / 1");
        model("var x;var y;min x-y;row a:x+y>=1;");
        fine("unbounded at 1 0 / 1 along 0 1 / 1");
        fault(5, "unbounded at 1 0 / 1 ^along 1 0 / 1");
        fault(5, "unbounded at 1 0 / 1 ^along 1 1 / 1");
        model(PLAIN);
        fault(5, "unbounded at 0 0 / 1 ^along 1 0 / 1");
    }

    private static void order() {
        model(PLAIN);
        // 1 of the whole text comes first.
        fault(1, "optimal 99 / 1 at 9 9 / 1 bound 1 9 : 9 ; ^x");
        fault(3, "^optimal 99 / 1 at 9 9 / 1 bound 1 9 : 9 ;");
        fault(2, "optimal 45 / 1 ^at 9 9 / 1 bound 1 9 : 9 ;");
        model(WHOLE);
        // TREES from the left as they stand.
        fault(4, "optimal 1 / 1 at 1 / 1 branch 1 1 ^bound 1 ; bound 1 ;");
        fault(4, "optimal 1 / 1 at 1 / 1 ^branch 5 1 bound 1 ; bound 1 ;");
    }

    /** A 41st row; a 3,001st TREE; what comes first at one word. */
    private static void much() {
        model(WHOLE);
        String head = "optimal 1 / 1 at 1 / 1 ";
        String cut = "cut 2 1 : 1 ; ";
        fine(head + cut.repeat(39) + "bound 1 40 : 1 ;");
        fault(6, head + cut.repeat(39) + "^" + cut + "bound 1 40 : 1 ;");
        fault(4, head + cut.repeat(39) + "^cut 2 1 : -1 ; bound 1 40 : 1 ;");
        fault(6, head + cut.repeat(39) + "^branch 1 1 bound 1 40 : 1 ; bound 1 40 : 1 ;");
        fault(4, head + cut.repeat(39) + "^branch 2 1 bound 1 40 : 1 ; bound 1 40 : 1 ;");
        fine(head + cut.repeat(38) + "branch 1 1 bound 1 40 : 1 ; bound 1 2 : 1 ;");
        trees(3000, "0");
        trees(3001, "6");
    }

    /** A proof of so many TREES, each as short as can be. */
    private static void trees(int many, String due) {
        model("var x whole;max 0;");
        StringBuilder text = new StringBuilder("optimal 0/1at 0/1");
        int[] made = new int[2];
        grow(text, many, made);
        Kit.due("made", made[0], many);
        Kit.due(many + " trees", Kit.checking(house, text.toString()), due.equals("0") ? "0" : due + " at " + made[1]);
    }

    /** Appends a TREE of exactly so many TREES; made[1] becomes the place of the 3,001st. */
    private static void grow(StringBuilder text, int trees, int[] made) {
        made[0]++;
        if (made[0] == 3001) {
            // It is MUCH ahead of its own FAULT.
            made[1] = text.length();
            text.append("bound 1 9:9;");
            return;
        }
        if (trees == 1) {
            text.append("bound 1;");
        } else if (trees % 2 == 0) {
            text.append("cut 1;");
            grow(text, trees - 1, made);
        } else {
            text.append("branch 1 1");
            int left = (trees - 1) / 2;
            left -= left % 2 == 0 ? 1 : 0;
            grow(text, left, made);
            grow(text, trees - 1 - left, made);
        }
    }

    /** Numbers of 60 digits and beyond. */
    private static void digits() {
        model(WHOLE);
        String nine = "9".repeat(60);
        String head = "optimal 1 / 1 at 1 / 1 ";
        // 2 y and 3 y of a cut have 61 digits.
        fault(6, head + "^cut 1 1 : " + nine + " ; bound 1 1 : 1 ;");
        fault(4, head + "cut 1 1 : 3" + "3".repeat(58) + " ; ^bound 1 1 : 1 ;");
        fine(head + "cut " + nine + " 1 : " + nine + " ; cut 2 2 : 1 ; bound 1 3 : 1 ;");
        // v + 1 has 61 digits: that is a row; a cut that takes it as it is has too many.
        fine(head + "branch 1 " + nine + " cut 2 1 : 1 ; bound 1 3 : 1 ; farkas 2 1 : 1 2 : 2 ;");
        fault(6, head + "branch 1 " + nine + " cut 2 1 : 1 ; bound 1 3 : 1 ; ^cut 1 2 : 1 ; bound 1 3 : 1 ;");
        fine(head + "branch 1 -" + nine + " farkas 1 2 : 1 ; cut 2 1 : 1 ; bound 1 3 : 1 ;");
        model("var x;max x;row a:x<=99999;");
        fine("optimal 99999 / 1 at 99999 / 1 bound " + nine + " 1 : " + nine + " ;");
        fault(4, "optimal 99999 / 1 at 99999 / 1 ^bound " + nine + " 1 : " + nine.substring(1) + "8 ;");
        fault(4, "optimal 99998 / 1 at 99998 / 1 ^bound " + nine + " 1 : " + nine + " ;");
        fault(3, "^optimal " + nine + " / " + nine + " at " + nine + " / 9" + nine.substring(2) + "8 bound 1 ;");
        fault(2, "optimal " + nine + " / 1 ^at " + nine + " / 1 bound 1 ;");
    }

    /** Divisions of great numbers: x at most 1 and x at least 99,999, a cut y / q, and the quotient as factor. */
    private static void divisions() {
        model("var x whole;max x;row a:x<=1;row b:x>=99999;");
        String[][] hard = {
            {"999999998499999999500000001500000001250000000", "1000000000500000001"},
            {"500000001000000001999999999999999998250000000", "500000000500000001999999999"},
            {"499999999499999999999999999499999999499999999", "999999999999999999999999999"},
            {"1000000002000000000250000000250000000", "500000001000000000500000001"},
            {"500000000000000000250000000000000000000000000", "2000000000000000001250000000500000001"},
            {"250000000999999999999999999500000000999999999000000000",
                "500000000999999998000000002999999999500000001"},
            {"500000001499999999500000000250000000500000001999999999", "500000000000000000999999998"},
            {"250000000000000001250000000000000000000000000999999999", "499999999500000001999999999"}};
        for (String[] pair : hard) {
            divides(new BigInteger(pair[0]), new BigInteger(pair[1]));
        }
        Random random = new Random(15);
        int[] limbs = {0, 1, 2, 499999999, 500000000, 999999998, 999999999};
        for (int i = 0; i < 3000; i++) {
            divides(number(random, limbs, 1 + random.nextInt(6)), number(random, limbs, 1 + random.nextInt(6)));
        }
        // One below, at and above a multiple: there a digit that is guessed from the first limbs is one too high.
        for (int i = 0; i < 3000; i++) {
            BigInteger q = number(random, limbs, 1 + random.nextInt(6));
            BigInteger product = q.multiply(number(random, limbs, 1 + random.nextInt(3)));
            for (int more = -1; more <= 1; more++) {
                BigInteger y = product.add(BigInteger.valueOf(more));
                if (y.toString().length() <= 60) {
                    divides(y, q);
                }
            }
        }
    }

    private static BigInteger number(Random random, int[] limbs, int count) {
        BigInteger value = BigInteger.ZERO;
        for (int i = 0; i < count; i++) {
            int limb = random.nextInt(3) > 0 ? limbs[random.nextInt(limbs.length)] : random.nextInt(1000000000);
            value = value.multiply(BigInteger.valueOf(1000000000)).add(BigInteger.valueOf(limb));
        }
        return value.add(BigInteger.ONE);
    }

    private static void divides(BigInteger y, BigInteger q) {
        BigInteger quotient = y.divide(q);
        if (quotient.signum() == 0) {
            return;
        }
        String cut = "infeasible cut " + q + " 1 : " + y + " ; ";
        fine(cut + "farkas 1 2 : " + quotient + " 3 : 1 ;");
        fault(4, cut + "^farkas 1 2 : " + quotient.add(BigInteger.ONE) + " 3 : 1 ;");
        // Of row b, which is below 0, rounded down.
        BigInteger up = y.add(q).subtract(BigInteger.ONE).divide(q);
        cut = "infeasible cut " + q + " 2 : " + y + " ; ";
        fine(cut + "farkas 1 1 : " + up + " 3 : 1 ;");
        fault(4, cut + "^farkas 1 1 : " + up.subtract(BigInteger.ONE) + " 3 : 1 ;");
    }

    /** A check leaves the model and its work. */
    private static void keeps() {
        model(WHOLE);
        house.begin(0);
        house.work(1);
        String before = ReferenceWork.picture(house);
        fine("optimal 1 / 1 at 1 / 1 cut 2 1 : 1 ; bound 1 2 : 1 ;");
        fault(4, "optimal 1 / 1 at 1 / 1 branch 1 0 bound 1 2 : 1 ; ^bound 1 2 : 1 ;");
        Kit.due("as it was", ReferenceWork.picture(house), before);
        Kit.due("goes on", house.work(500), 1);
        Kit.due("optimal", house.look(0), 2);
    }
}
