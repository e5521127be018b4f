import java.math.BigInteger;
import java.util.Random;

/** Terms, 4. PROOFS, sentence by sentence: as they are made, and the CHECKER's FAULTS (promises 14 and 15). */
public final class ProofEdgesTest {
    private static final String PLAIN = "var x;var y;max 3*x+2*y;row a:x+y<=4;row b:x+3*y<=6;row c:x<=3;";
    private static final String WHOLE = "var x whole;max x;row a:2*x<=3;";
    private static final String HEAD = "optimal 1 / 1 at 1 / 1 ";
    private static final String NINES = "9".repeat(60);
    private static OptimumHouse house;

    private ProofEdgesTest() {
    }

    private static void model(String text) {
        house = Kit.house(text);
    }

    private static void fine(String text) {
        Kit.holds(house, text);
    }

    private static void fault(int kind, String text) {
        Kit.breaks(house, kind, text);
    }

    public static void main(String[] args) {
        madeTokens();
        madeValues();
        madeRays();
        blanks();
        words();
        numbers();
        proofs();
        points();
        trees();
        behind();
        overWhat();
        pointRows();
        pointSigns();
        pointWhole();
        value();
        branchVariable();
        cutAllWhole();
        pairRows();
        pairMultipliers();
        boundOfInfeasible();
        boundSums();
        boundRounded();
        farkasSums();
        alongSigns();
        alongRows();
        alongGoal();
        cutRows();
        branchRows();
        fortyRows();
        threeThousandTrees();
        sixtyDigits();
        order();
        full();
        Kit.done();
    }

    private static String made(String text, int cuts) {
        model(text);
        Kit.solve(house, cuts);
        String proof = Kit.proof(house);
        Kit.due("bytes", house.look(8), proof.length());
        return proof;
    }

    private static void madeTokens() {
        Kit.says("what is made has one blank between all tokens, none at its ends; 0s ahead: as made there are none; r rising, y "
            + "the MULTIPLIERS that aren't 0");
        int proofs = 0;
        for (int round = 0; round < 200; round++) {
            Random random = Kit.random(31, round);
            String text = Models.text(Models.random(random), random);
            if (text.length() > 2000) {
                continue;
            }
            String proof = made(text, random.nextInt(4));
            if (!proof.isEmpty()) {
                proofs++;
                for (String token : proof.split(" ", -1)) {
                    Kit.due("token " + token, token.matches("[a-z]+|-?[1-9][0-9]*|0|[/:;]"), true);
                }
                Kit.due("no y of 0 in " + proof, proof.contains(": 0 "), false);
                Kit.due("rising r of " + proof, isRising(proof), true);
            }
        }
        Kit.due("some proofs", proofs > 100, true);
    }

    private static boolean isRising(String proof) {
        String[] tokens = proof.split(" ");
        int last = 0;
        for (int i = 1; i < tokens.length; i++) {
            if (tokens[i].equals(":")) {
                int row = Integer.parseInt(tokens[i - 1]);
                if (row <= last) {
                    return false;
                }
                last = row;
            }
            last = tokens[i].equals(";") ? 0 : last;
        }
        return true;
    }

    private static void madeValues() {
        Kit.says("the VALUE as it is told for max and min (a fraction that can't be made less, its lower part above 0), the POINT "
            + "of the BEST over the least number that goes; q D");
        Kit.due("whole", made(PLAIN, 0), "optimal 11 / 1 at 3 1 / 1 bound 1 1 : 2 3 : 1 ;");
        Kit.due("fractions", made("var x;var y;max x+y;row a:4*x<=2;row b:6*y<=2;", 0),
            "optimal 5 / 6 at 3 2 / 6 bound 24 1 : 6 2 : 4 ;");
        Kit.due("of min", made("var x;min 2*x+1;row a:3*x>=2;", 0), "optimal 7 / 3 at 2 / 3 bound 3 1 : 2 ;");
        Kit.due("of min, below 0", made("var x;min 1-2*x;row a:3*x<=2;", 0), "optimal -1 / 3 at 2 / 3 bound 3 1 : 2 ;");
        Kit.due("below 0", made("var x;max -1-2*x;row a:3*x>=2;", 0), "optimal -7 / 3 at 2 / 3 bound 3 1 : 2 ;");
        Kit.due("0", made("var x;max 0-x;row a:x<=2;", 0), "optimal 0 / 1 at 0 / 1 bound 1 ;");
        Kit.due("no variables", made("min 3;", 0), "optimal 3 / 1 at / 1 bound 1 ;");
        // D is 2, and the POINT's numbers are even.
        Kit.due("over less than D", made("var x;max x;row a:2*x<=4;", 0), "optimal 2 / 1 at 2 / 1 bound 2 1 : 1 ;");
        Kit.due("infeasible", made("var x;max x;row a:x<=1;row b:x>=3;", 0), "infeasible farkas 2 1 : 1 2 : 1 ;");
        Kit.due("TREES as met", made(WHOLE, 0), HEAD + "branch 1 1 bound 1 2 : 1 ; farkas 2 1 : 1 2 : 2 ;");
        Kit.due("of cut F(j)", made("var x whole;var y whole;max 3*x+2*y;row a:4*x+y<=9;row b:x+3*y<=7;", 1)
            .contains(" cut 11 1 : 3 2 : 10 ; "), true);
    }

    private static void madeRays() {
        Kit.says("Of a RAY: its POINT likewise; along: D for N(j), -T(i, j) for B(i), 0 else, for variables 1 .. n, over 1 (as "
            + "they are)");
        Kit.due("from 0", made("var x;max x;", 0), "unbounded at 0 / 1 along 1 / 1");
        Kit.due("D and -T", made("var x;var y;var u;max x+y;row a:2*x-y<=3;", 0), "unbounded at 3 0 0 / 2 along 1 2 0 / 1");
        Kit.due("as they are", made("var x;var y;max x+y;row a:4*x<=2;row b:3*x-3*y<=0;", 0),
            "unbounded at 1 1 / 2 along 0 4 / 1");
    }

    private static void blanks() {
        Kit.says("TOKENS there, as long as can be, blanks (32, 10) between where one likes");
        model("max 1;");
        for (int value = 0; value < 256; value++) {
            boolean good = value == 32 || value == 10;
            boolean letter = value >= 'a' && value <= 'z' || value >= 'A' && value <= 'Z';
            boolean digit = value >= '0' && value <= '9';
            Kit.due("byte " + value, Kit.checking(house, "optimal" + (char) value + "1/1at/1bound 1;"),
                good ? "0" : value == '-' ? "3 at 0" : digit && value == '0' ? "0" : digit ? "3 at 0" : letter ? "1 at 0" : "1 at 7");
        }
        fine("optimal1/1at/1bound1;");
        fine(" \n optimal \n 1 \n / \n 1 \n at \n / \n 1 \n bound \n 1 \n ; \n ");
        fault(1, "^op timal 1 / 1 at / 1 bound 1 ;");
        fault(1, "optimal 1 ^1 / 1 at / 1 bound 1 ;");
    }

    private static void words() {
        Kit.says("rows of letters (of both cases; the words told below are such)");
        model(PLAIN);
        String[] tokens = "optimal 11 / 1 at 3 1 / 1 bound 1 1 : 2 3 : 1 ;".split(" ");
        for (int i = 0; i < tokens.length; i++) {
            if (!Character.isLetter(tokens[i].charAt(0))) {
                continue;
            }
            String word = tokens[i];
            String[] others = {word.toUpperCase(), word + "x", "x" + word, word.substring(1), word + word,
                word.substring(0, 1).toUpperCase() + word.substring(1)};
            for (String other : others) {
                String[] changed = tokens.clone();
                changed[i] = "^" + other;
                fault(1, String.join(" ", changed));
            }
        }
        fault(1, "^");
        fault(1, "^" + "a".repeat(30000 - 20));
    }

    private static void numbers() {
        Kit.says("NUMBERS: digits, 60 at most, perhaps with - right ahead (but -0, -00 .. are none; 0s ahead are fine)");
        model(PLAIN);
        String rest = " / 1 at 3 1 / 1 bound 1 1 : 2 3 : 1 ;";
        fault(3, "^optimal " + NINES + rest);
        fault(1, "optimal ^9" + NINES + rest);
        fault(1, "optimal ^" + "9".repeat(5000) + rest);
        fault(3, "^optimal -" + NINES + rest);
        fault(1, "optimal ^-9" + NINES + rest);
        fine("optimal " + "0".repeat(58) + "11" + rest);
        fault(1, "optimal ^" + "0".repeat(59) + "11" + rest);
        fault(1, "optimal ^-0" + rest);
        fault(1, "optimal ^-00" + rest);
        fault(1, "optimal ^-" + "0".repeat(60) + rest);
        fault(1, "optimal ^-" + "0".repeat(61) + rest);
        fault(3, "^optimal -" + "0".repeat(59) + "1" + rest);
        fault(1, "optimal ^-" + rest);
        fault(1, "optimal ^- 11" + rest);
        fault(1, "optimal ^--11" + rest);
        fault(1, "optimal ^+11" + rest);
        fault(1, "optimal 11^-1" + rest);
        fault(3, "^optimal 0" + rest);
        fault(3, "^optimal 00" + rest);
        // - ends a NUMBER: here 3 and -1.
        fault(2, "optimal 7 / 1 ^at 3-1 / 1 bound 1 1 : 2 3 : 1 ;");
    }

    private static void proofs() {
        Kit.says("PROOF: optimal NUMBER / NUMBER at POINT TREE, or infeasible TREE, or unbounded at POINT along POINT");
        model(PLAIN);
        String[] good = {"optimal 11 / 1 at 3 1 / 1 bound 1 1 : 2 3 : 1 ;", "infeasible farkas 1 1 : 1 ;",
            "unbounded at 0 0 / 1 along 1 0 / 1", "infeasible branch 1 1 farkas 1 ; cut 1 1 : 1 ; farkas 1 2 : 1 ;"};
        String[] ends = {"0", "4 at 11", "5 at 21", "4 at 11"};
        for (int g = 0; g < good.length; g++) {
            Kit.due("check of " + good[g], Kit.checking(house, good[g]), ends[g]);
            String[] tokens = good[g].split(" ");
            StringBuilder ahead = new StringBuilder();
            for (String token : tokens) {
                // Each token is needed, and none of another sort can stand in its place.
                fault(1, ahead + "^");
                fault(1, ahead + "^?");
                fault(1, ahead + "^x");
                if (!token.equals("/")) {
                    fault(1, ahead + "^/");
                }
                if (!token.equals(":")) {
                    fault(1, ahead + "^:");
                }
                ahead.append(token + " ");
            }
        }
        fault(1, "optimal 11 / 1 at 3 1 / 1 ^along 1 1 / 1");
        fault(1, "infeasible ^at 1 1 / 1 farkas 1 ;");
        fault(1, "infeasible ^infeasible farkas 1 ;");
        fault(1, "unbounded at 1 1 / 1 ^farkas 1 ;");
    }

    private static void points() {
        Kit.says("POINT: n NUMBERS, / , a NUMBER");
        model(PLAIN);
        fault(1, "optimal 11 / 1 at 3 ^/ 1 bound 1 ;");
        fault(1, "optimal 11 / 1 at 3 1 ^1 / 1 bound 1 ;");
        fault(1, "optimal 11 / 1 at ^/ 1 bound 1 ;");
        fault(1, "unbounded at 3 1 / 1 along 1 ^/ 1");
        fault(1, "unbounded at 3 1 / 1 along 1 1 ^1 / 1");
        model("max 1;");
        fine("optimal 1 / 1 at / 1 bound 1 ;");
        fault(1, "optimal 1 / 1 at ^0 / 1 bound 1 ;");
        model("set S=1..12;var x[S];max 1;");
        fine("optimal 1 / 1 at 0 1 2 3 4 5 6 7 8 9 10 11 / 1 bound 1 ;");
        fault(1, "optimal 1 / 1 at 0 1 2 3 4 5 6 7 8 9 10 ^/ 1 bound 1 ;");
        fault(1, "optimal 1 / 1 at 0 1 2 3 4 5 6 7 8 9 10 11 ^12 / 1 bound 1 ;");
    }

    private static void trees() {
        Kit.says("TREE: branch k v TREE TREE; cut q PAIRS ; TREE; bound q PAIRS ; or farkas q PAIRS ; . PAIRS: any number of r : y");
        model(WHOLE);
        fault(1, HEAD + "branch ^bound 1 ;");
        fault(1, HEAD + "branch 1 ^bound 1 ;");
        fault(1, HEAD + "branch 1 1 ^;");
        fault(1, HEAD + "branch 1 1 ^1 bound 1 ;");
        fault(1, HEAD + "branch 1 1 bound 1 ;^");
        fault(1, HEAD + "branch 1 1 bound 1 ; branch 1 1 bound 1 ;^");
        fault(1, HEAD + "cut ^; bound 1 ;");
        fault(1, HEAD + "cut 1 ^bound 1 ;");
        fault(1, HEAD + "cut 1 ;^");
        fault(1, HEAD + "bound ^;");
        fault(1, HEAD + "bound 1^");
        fault(1, HEAD + "bound 1 1 ^;");
        fault(1, HEAD + "bound 1 1 : ^;");
        fault(1, HEAD + "bound 1 1 : 1 1 ^;");
        fault(1, HEAD + "bound 1 ^: 1 ;");
        fault(1, HEAD + "farkas 1 1 : 1 ^: 1 ;");
        fine(HEAD + "cut 2 1 : 1 ; bound 1 2 : 1 ;");
        // No PAIRS: fine as a text.
        fault(4, HEAD + "^bound 1 ;");
        fine(HEAD + "cut 1 ; cut 2 1 : 1 ; bound 1 3 : 1 ;");
        // So many PAIRS that they must be 4, but no more than that.
        fault(4, HEAD + "^bound 1 " + "1:1 ".repeat(7000) + ";");
        fault(1, HEAD + "bound 1 " + "1:1 ".repeat(7000) + "^");
    }

    private static void behind() {
        Kit.says("FAULT 1: the first token with which no PROOF goes on, or that is none (also the end; also what is behind a PROOF)");
        model(PLAIN);
        String good = "optimal 11 / 1 at 3 1 / 1 bound 1 1 : 2 3 : 1 ;";
        fine(good);
        fine(good + "  ");
        fault(1, good + "^;");
        fault(1, good + " ^1");
        fault(1, good + " ^bound 1 ;");
        fault(1, good + "^?");
        fault(1, good + " ^\t");
        fault(1, good + "^\u0000");
        fault(1, good + " ^" + good);
        fault(1, "unbounded at 0 0 / 1 along 1 0 / 1 ^;");
        fault(1, "unbounded at 0 0 / 1 along 1 0 / 1 ^1");
        fault(1, "^");
        fault(1, " \n^");
    }

    private static void fault(int kind, String text, int place) {
        Kit.due("check of " + text, Kit.checking(house, text), kind + " at " + place);
    }

    private static void overWhat() {
        Kit.says("FAULT 1: a number that says over what (/ NUMBER, q) and isn't above 0");
        model(WHOLE);
        String[] bad = {"^0", "^00", "^-1", "^-" + NINES};
        String[] proofs = {"optimal 1 / # at 1 / 1 cut 2 1 : 1 ; bound 1 2 : 1 ;",
            "optimal 1 / 1 at 1 / # cut 2 1 : 1 ; bound 1 2 : 1 ;", "optimal 1 / 1 at 1 / 1 cut # 1 : 1 ; bound 1 2 : 1 ;",
            "optimal 1 / 1 at 1 / 1 cut 2 1 : 1 ; bound # 2 : 1 ;", "infeasible farkas # 1 : 1 ;",
            "unbounded at 1 / # along 1 / 1", "unbounded at 1 / 1 along 1 / #"};
        for (String proof : proofs) {
            for (String number : bad) {
                fault(1, proof.replace("#", number));
            }
        }
        fine("optimal 1 / 01 at 1 / 001 cut 02 1 : 1 ; bound 01 2 : 1 ;");
        // v, y and the numbers ahead of / may be 0 or below.
        fault(4, "optimal 1 / 1 at 1 / 1 branch 1 0 ^bound 1 ; bound 1 ;");
        fault(4, "optimal 1 / 1 at 1 / 1 branch 1 -1 ^bound 1 ; bound 1 ;");
    }

    private static void pointRows() {
        Kit.says("2 POINT (at at): it doesn't meet the rows");
        model("var x;var y;max 0;row a:2*x+3*y<=6;row b:x+y>=1;");
        fine("optimal 0 / 1 at 3 0 / 1 bound 1 ;");
        fine("optimal 0 / 1 at 0 2 / 1 bound 1 ;");
        fine("optimal 0 / 1 at 1 0 / 1 bound 1 ;");
        fault(2, "optimal 0 / 1 ^at 301 0 / 100 bound 1 ;");
        fault(2, "optimal 0 / 1 ^at 99 0 / 100 bound 1 ;");
        fault(2, "optimal 0 / 1 ^at 3 1 / 1 bound 1 ;");
        fault(2, "optimal 0 / 1 ^at 0 0 / 1 bound 1 ;");
        fault(2, "unbounded ^at 0 0 / 1 along 1 1 / 1");
        fault(5, "unbounded at 1 0 / 1 ^along 1 1 / 1");
        // The bound times what the POINT is over, to the last digit.
        fine("optimal 0 / 1 at 3" + "0".repeat(59) + " 0 / 1" + "0".repeat(59) + " bound 1 ;");
        fault(2, "optimal 0 / 1 ^at 3" + "0".repeat(58) + "1 0 / 1" + "0".repeat(59) + " bound 1 ;");
    }

    private static void pointSigns() {
        Kit.says("2 POINT: or is below 0");
        model("var x;var y;max 0;row a:x+y<=6;");
        fine("optimal 0 / 1 at 0 0 / 1 bound 1 ;");
        fault(2, "optimal 0 / 1 ^at -1 0 / 1 bound 1 ;");
        fault(2, "optimal 0 / 1 ^at 0 -1 / " + NINES + " bound 1 ;");
        fault(2, "unbounded ^at 0 -1 / 1 along 1 1 / 1");
    }

    private static void pointWhole() {
        Kit.says("2 POINT: or not whole where it must be (that not of unbounded)");
        model("var x whole;var y;max 0;row a:x+y<=6;");
        fine("optimal 0 / 1 at 4 3 / 2 bound 1 ;");
        fault(2, "optimal 0 / 1 ^at 3 4 / 2 bound 1 ;");
        fine("optimal 0 / 1 at 0 1 / 2 bound 1 ;");
        model("var x whole;var y;max x;");
        fine("unbounded at 1 1 / 2 along 1 0 / 1");
        fine("unbounded at 1 1 / 2 along 1 0 / 2");
    }

    private static void value() {
        Kit.says("3 VALUE (at optimal): the POINT's isn't that");
        model(PLAIN);
        fault(3, "  ^optimal 12 / 1 at 3 1 / 1 bound 1 1 : 2 3 : 1 ;");
        fault(3, "^optimal 10 / 1 at 3 1 / 1 bound 1 1 : 2 3 : 1 ;");
        fault(3, "^optimal -11 / 1 at 3 1 / 1 bound 1 1 : 2 3 : 1 ;");
        fine("optimal 22 / 2 at 6 2 / 2 bound 1 1 : 2 3 : 1 ;");
        fault(3, "^optimal 22 / 3 at 6 2 / 2 bound 1 1 : 2 3 : 1 ;");
        model("var x;min 2*x+1;row a:3*x>=2;");
        fine("optimal 7 / 3 at 2 / 3 bound 3 1 : 2 ;");
        fault(3, "^optimal -7 / 3 at 2 / 3 bound 3 1 : 2 ;");
        fault(3, "^optimal 4 / 3 at 2 / 3 bound 3 1 : 2 ;");
    }

    private static void branchVariable() {
        Kit.says("4 TREE (at the word): branch with k no WHOLE variable");
        model("var x whole;var y;var u whole;max 0;");
        String head = "optimal 0 / 1 at 0 0 0 / 1 ";
        String rest = " 1 bound 1 ; bound 1 ;";
        fine(head + "branch 1" + rest);
        fine(head + "branch 3" + rest);
        fine(head + "branch 003" + rest);
        String[] none = {"0", "2", "4", "-1", "-3", "13", "4294967297", "18446744073709551617", NINES};
        for (String k : none) {
            fault(4, head + "^branch " + k + rest);
        }
        fault(4, head + "branch 1 1 ^branch 2" + rest + " bound 1 ;");
    }

    private static void cutAllWhole() {
        Kit.says("4 TREE: cut when not all are WHOLE");
        model("var x whole;var y whole;max 0;row a:x<=1;");
        fine("optimal 0 / 1 at 0 0 / 1 cut 1 1 : 1 ; bound 1 ;");
        model("var x whole;var y;max 0;row a:x<=1;");
        fault(4, "optimal 0 / 1 at 0 0 / 1 ^cut 1 1 : 1 ; bound 1 ;");
        fault(4, "optimal 0 / 1 at 0 0 / 1 ^cut 1 ; bound 1 ;");
        fine("optimal 0 / 1 at 0 0 / 1 bound 1 ;");
        model("max 0;");
        fine("optimal 0 / 1 at / 1 cut 1 ; bound 1 ;");
    }

    private static void pairRows() {
        Kit.says("4 TREE: r not 1 .. as many rows as there are there, or not rising");
        model(PLAIN);
        String head = "optimal 11 / 1 at 3 1 / 1 ";
        fine(head + "bound 1 1 : 2 2 : 0 3 : 1 ;");
        String[] bad = {"0 : 0 1 : 2 3 : 1", "-1 : 0 1 : 2 3 : 1", "1 : 2 3 : 1 4 : 0", "1 : 2 3 : 1 3 : 0", "3 : 1 1 : 2",
            "1 : 2 2 : 0 2 : 0 3 : 1", "1 : 2 3 : 1 2 : 0", "1 : 2 3 : 1 4294967300 : 0", "1 : 2 3 : 1 " + NINES + " : 0"};
        for (String pairs : bad) {
            fault(4, head + "^bound 1 " + pairs + " ;");
        }
        model(WHOLE);
        fine(HEAD + "cut 2 1 : 1 ; bound 1 2 : 1 ;");
        fault(4, HEAD + "^cut 2 2 : 1 ; bound 1 2 : 1 ;");
        fault(4, HEAD + "^cut 2 1 : 1 1 : 1 ; bound 1 2 : 1 ;");
        fault(4, HEAD + "cut 2 1 : 1 ; ^bound 1 3 : 1 ;");
        fine(HEAD + "branch 1 1 bound 1 2 : 1 ; farkas 2 1 : 1 2 : 2 ;");
        fault(4, HEAD + "branch 1 1 bound 1 2 : 1 ; ^farkas 2 1 : 1 2 : 2 3 : 0 ;");
        // The rows of the first TREE are gone in the second one.
        fine(HEAD + "branch 1 1 cut 2 1 : 1 ; bound 1 3 : 1 ; farkas 2 1 : 1 2 : 2 ;");
        fault(4, HEAD + "branch 1 1 cut 2 1 : 1 ; bound 1 3 : 1 ; ^farkas 2 1 : 1 2 : 2 3 : 0 ;");
        model("max 0;");
        fine("optimal 0 / 1 at / 1 bound 1 ;");
        fault(4, "optimal 0 / 1 at / 1 ^bound 1 1 : 0 ;");
    }

    private static void pairMultipliers() {
        Kit.says("4 TREE: y below 0");
        model(PLAIN);
        fine("optimal 11 / 1 at 3 1 / 1 bound 1 1 : 2 2 : 0 3 : 1 ;");
        fault(4, "optimal 11 / 1 at 3 1 / 1 ^bound 1 1 : 2 2 : -1 3 : 1 ;");
        fault(4, "infeasible ^farkas 1 1 : -1 ;");
        model(WHOLE);
        fault(4, HEAD + "^cut 2 1 : -1 ; bound 1 2 : 1 ;");
        fault(4, HEAD + "^cut 2 1 : -" + NINES + " ; bound 1 2 : 1 ;");
    }

    private static void boundOfInfeasible() {
        Kit.says("4 TREE: bound in infeasible");
        model("var x whole;max 0;row a:2*x=1;");
        fine("infeasible branch 1 0 farkas 1 2 : 1 3 : 2 ; farkas 1 1 : 1 3 : 2 ;");
        fault(4, "infeasible branch 1 0 ^bound 1 ; farkas 1 1 : 1 3 : 2 ;");
        fault(4, "infeasible branch 1 0 farkas 1 2 : 1 3 : 2 ; ^bound 1 ;");
        fault(4, "infeasible ^bound 1 ;");
    }

    private static void boundSums() {
        Kit.says("4: bound: for each variable the sum of y a isn't below q c, and the sum of y b with q c0, over q, isn't above the "
            + "VALUE (of min: with signs turned)");
        model("var x;var y;max 3*x+2*y+5;row a:x<=4;row b:y<=6;");
        String head = "optimal 29 / 1 at 4 6 / 1 ";
        fine(head + "bound 1 1 : 3 2 : 2 ;");
        fine(head + "bound 7 1 : 21 2 : 14 ;");
        fault(4, head + "^bound 7 1 : 20 2 : 14 ;");
        fault(4, head + "^bound 7 1 : 21 2 : 13 ;");
        fault(4, head + "^bound 7 1 : 22 2 : 14 ;");
        fault(4, head + "^bound 7 1 : 21 2 : 15 ;");
        fault(4, head + "^bound 1 1 : 3 ;");
        fault(4, "optimal 28 / 1 at 11 18 / 3 ^bound 1 1 : 3 2 : 2 ;");
        model("var x;min 3*x+5;row a:x>=4;");
        fine("optimal 17 / 1 at 4 / 1 bound 1 1 : 3 ;");
        fine("optimal 17 / 1 at 4 / 1 bound 2 1 : 6 ;");
        fault(4, "optimal 17 / 1 at 4 / 1 ^bound 2 1 : 7 ;");
        fault(4, "optimal 17 / 1 at 4 / 1 ^bound 2 1 : 5 ;");
        fault(4, "optimal 20 / 1 at 5 / 1 ^bound 1 1 : 3 ;");
    }

    private static void boundRounded() {
        Kit.says("4: bound: .. over q (rounded down as in 3)");
        model("var x whole;var y;max x;row a:2*x+y<=3;");
        fine("optimal 1 / 1 at 1 0 / 1 bound 2 1 : 1 ;");
        model("var x whole;var y;max x;row a:2*x+y<=4;");
        fault(4, "optimal 1 / 1 at 1 0 / 1 ^bound 2 1 : 1 ;");
        model("var x whole;var y;max x+y;row a:2*x+2*y<=3;");
        fault(4, "optimal 1 / 1 at 1 0 / 1 ^bound 2 1 : 1 ;");
        fine("optimal 3 / 2 at 2 1 / 2 bound 2 1 : 1 ;");
        model("var x whole;min x-4;row a:2*x>=3;");
        fine("optimal -2 / 1 at 2 / 1 bound 2 1 : 1 ;");
        model("var x whole;min x-4;row a:2*x>=2;");
        fault(4, "optimal -2 / 1 at 2 / 1 ^bound 2 1 : 1 ;");
        // The VALUE that is told may be over more than 1, as long as it is the POINT's.
        model(WHOLE);
        fine("optimal 2 / 2 at 1 / 1 cut 2 1 : 1 ; bound 1 2 : 1 ;");
        fine("optimal 3 / 3 at 1 / 1 bound 2 1 : 1 ;");
    }

    private static void farkasSums() {
        Kit.says("4: farkas: the sums of y a aren't below 0, that of y b is below 0");
        model("var x;var y;max 0;row a:x+y<=1;row b:x>=2;row c:y<=0;row d:y>=0;");
        fine("infeasible farkas 1 1 : 1 2 : 1 ;");
        fine("infeasible farkas 9 1 : 1 2 : 1 3 : 1 ;");
        fine("infeasible farkas 1 1 : 1 2 : 1 4 : 1 ;");
        fault(4, "infeasible ^farkas 1 1 : 1 2 : 1 4 : 2 ;");
        fault(4, "infeasible ^farkas 1 1 : 1 2 : 2 ;");
        fault(4, "infeasible ^farkas 1 1 : 2 2 : 1 ;");
        fine("infeasible farkas 1 1 : 3 2 : 2 ;");
        fault(4, "infeasible ^farkas 1 1 : 4 2 : 2 ;");
        fault(4, "infeasible ^farkas 1 3 : 1 4 : 1 ;");
        fault(4, "infeasible ^farkas 1 ;");
    }

    private static void alongSigns() {
        Kit.says("5 ALONG (at along): one below 0");
        model("var x;var y;max x+y;");
        fine("unbounded at 0 0 / 1 along 1 0 / 1");
        fault(5, "unbounded at 0 0 / 1 ^along 2 -1 / 1");
        fault(5, "unbounded at 0 0 / 1 ^along -1 2 / 1");
        fault(5, "unbounded at 0 0 / 1 ^along -1 " + NINES + " / " + NINES);
    }

    private static void alongRows() {
        Kit.says("5 ALONG: a row whose sum of a along is above 0");
        model("var x;var y;max x+y;row a:2*x-3*y<=9;row b:x-2*y<=9;");
        fine("unbounded at 0 0 / 1 along 3 2 / 1");
        fault(5, "unbounded at 0 0 / 1 ^along 4 2 / 1");
        fault(5, "unbounded at 0 0 / 1 ^along 31 20 / 1");
        fault(5, "unbounded at 0 0 / 1 ^along 1 0 / 1");
    }

    private static void alongGoal() {
        Kit.says("5 ALONG: or the sum of c along isn't above 0");
        model("var x;var y;max x-y+100;");
        fine("unbounded at 0 0 / 1 along 3 2 / 1");
        fault(5, "unbounded at 0 0 / 1 ^along 2 2 / 1");
        fault(5, "unbounded at 0 0 / 1 ^along 0 0 / 1");
        fault(5, "unbounded at 0 0 / 1 ^along 1 2 / 1");
        model("var x;min 5-x;");
        fine("unbounded at 0 / 1 along 1 / 1");
        model("var x;min 5+x;");
        fault(5, "unbounded at 0 / 1 ^along 1 / 1");
        model("max 1;");
        fault(5, "unbounded at / 1 ^along / 1");
    }

    private static void cutRows() {
        Kit.says("cut adds the row: the sums of y a, and of y b, over q, rounded down");
        model("var x whole;max x;row a:2*x<=5;row b:2*x>=3;");
        fine("optimal 2 / 1 at 2 / 1 cut 2 1 : 1 ; bound 1 3 : 1 ;");
        fault(4, "optimal 2 / 1 at 2 / 1 cut 3 1 : 1 ; ^bound 1 3 : 1 ;");
        // Below 0: -2 x at most -3, over 2: -x at most -2; over 3: -x at most -1.
        model("var x whole;max 0;row a:x<=1;row b:2*x>=3;");
        fine("infeasible cut 2 2 : 1 ; farkas 1 1 : 1 3 : 1 ;");
        fault(4, "infeasible cut 3 2 : 1 ; ^farkas 1 1 : 1 3 : 1 ;");
        fault(4, "infeasible cut 1 2 : 1 ; ^farkas 1 1 : 1 3 : 1 ;");
    }

    private static void branchRows() {
        Kit.says("branch [adds] that of v to its first TREE, that of v + 1 to its second one");
        model(WHOLE);
        fine(HEAD + "branch 1 1 bound 1 2 : 1 ; farkas 2 1 : 1 2 : 2 ;");
        fault(4, HEAD + "branch 1 2 ^bound 1 2 : 1 ; farkas 2 1 : 1 2 : 2 ;");
        fault(4, HEAD + "branch 1 0 bound 1 2 : 1 ; ^farkas 2 1 : 1 2 : 2 ;");
        fine(HEAD + "branch 1 -1 farkas 1 2 : 1 ; branch 1 1 bound 1 3 : 1 ; farkas 2 1 : 1 3 : 2 ;");
        fine(HEAD + "branch 1 -" + NINES + " farkas 1 2 : 1 ; cut 2 1 : 1 ; bound 1 3 : 1 ;");
        fine(HEAD + "branch 1 " + NINES + " cut 2 1 : 1 ; bound 1 3 : 1 ; farkas 2 1 : 1 2 : 2 ;");
        fault(4, HEAD + "branch 1 1 bound 1 2 : 1 ; ^bound 1 2 : 1 ;");
    }

    private static void fortyRows() {
        Kit.says("6 (at the word) a 41st row");
        model(WHOLE);
        String cut = "cut 2 1 : 1 ; ";
        fine(HEAD + cut.repeat(39) + "bound 1 40 : 1 ;");
        fault(6, HEAD + cut.repeat(39) + "^cut 2 1 : 1 ; bound 1 40 : 1 ;");
        fine(HEAD + cut.repeat(38) + "branch 1 1 bound 1 40 : 1 ; farkas 2 1 : 1 40 : 2 ;");
        fault(6, HEAD + cut.repeat(39) + "^branch 1 1 bound 1 40 : 1 ; bound 1 40 : 1 ;");
        fault(6, HEAD + cut.repeat(38) + "branch 1 1 ^branch 1 1 bound 1 ; bound 1 ; bound 1 ;");
        // A second TREE has no more rows than the first one: 40 are fine there, 41 aren't.
        fine(HEAD + "branch 1 1 bound 1 2 : 1 ; " + cut.repeat(38) + "farkas 2 1 : 1 2 : 2 ;");
        fault(6, HEAD + "branch 1 1 bound 1 2 : 1 ; " + cut.repeat(38) + "^cut 2 1 : 1 ; farkas 2 1 : 1 2 : 2 ;");
        // After 40 rows in the first TREE there is room in the second one.
        fine(HEAD + "branch 1 1 " + cut.repeat(38) + "bound 1 40 : 1 ; " + cut.repeat(38) + "farkas 2 1 : 1 2 : 2 ;");
        model("set S=1..8;var x whole;max 0;row a[i in S]:0=0;");
        fine("optimal 0 / 1 at 0 / 1 " + "cut 1 ; ".repeat(24) + "bound 1 ;");
        fault(6, "optimal 0 / 1 at 0 / 1 " + "cut 1 ; ".repeat(24) + "^cut 1 ; bound 1 ;");
        // 40 BRANCHES whose second TREES wait.
        model("var x whole;max 0;");
        fine("optimal 0 / 1 at 0 / 1 " + "branch 1 1 ".repeat(40) + "bound 1 ; ".repeat(41));
        fault(6, "optimal 0 / 1 at 0 / 1 " + "branch 1 1 ".repeat(40) + "^branch 1 1 " + "bound 1 ; ".repeat(42));
    }

    private static void threeThousandTrees() {
        Kit.says("6 (at the word) a 3,001st TREE");
        model("var x whole;max 0;");
        fine(forest(3000, 0));
        String more = forest(3001, 0);
        fault(6, more, placeOfTree(more, 3001));
        // It comes ahead of the FAULT 4 that it has.
        more = forest(3001, 99);
        fault(6, more, placeOfTree(more, 3001));
        more = forest(3000, 99);
        fault(4, more, placeOfTree(more, 3000));
    }

    /** A proof of exactly so many TREES; the last bound names that row, which isn't there, if it isn't 0. */
    private static String forest(int trees, int row) {
        StringBuilder text = new StringBuilder("optimal 0/1at 0/1");
        grow(text, trees);
        if (row == 0) {
            return text.toString();
        }
        return text.substring(0, text.length() - 1) + " " + row + ":0;";
    }

    private static void grow(StringBuilder text, int trees) {
        if (trees == 1) {
            text.append("bound 1;");
        } else if (trees % 2 == 0) {
            text.append("cut 1;");
            grow(text, trees - 1);
        } else {
            int left = (trees - 1) / 2;
            left -= left % 2 == 0 ? 1 : 0;
            text.append("branch 1 1");
            grow(text, left);
            grow(text, trees - 1 - left);
        }
    }

    private static int placeOfTree(String text, int number) {
        java.util.regex.Matcher words = java.util.regex.Pattern.compile("branch|cut|bound|farkas").matcher(text);
        for (int i = 0; i < number; i++) {
            words.find();
        }
        return words.start();
    }

    private static void sixtyDigits() {
        Kit.says("6 (at the word) a cut with a coefficient or bound of more than 60 digits");
        String five = "5" + "0".repeat(59);
        String less = "4" + "9".repeat(59);
        model("var x whole;var y whole;max 0;row a:2*x<=1;row b:x<=2;row c:2*y>=1;row d:y>=2;row e:17*y>=1;");
        String head = "optimal 0 / 1 at 0 2 / 1 ";
        fine(head + "cut 1 1 : " + less + " ; bound 1 ;");
        fault(6, head + "^cut 1 1 : " + five + " ; bound 1 ;");
        fine(head + "cut 1 2 : " + less + " ; bound 1 ;");
        fault(6, head + "^cut 1 2 : " + five + " ; bound 1 ;");
        fine(head + "cut 1 3 : " + less + " ; bound 1 ;");
        fault(6, head + "^cut 1 3 : " + five + " ; bound 1 ;");
        fine(head + "cut 1 4 : " + less + " ; bound 1 ;");
        fault(6, head + "^cut 1 4 : " + five + " ; bound 1 ;");
        fine(head + "cut 2 1 : " + five + " ; bound 1 ;");
        // -(10 ^ 60) and a quarter: rounded down it has 61 digits.
        BigInteger y = BigInteger.TEN.pow(60).multiply(BigInteger.valueOf(4)).subtract(BigInteger.ONE);
        Kit.due("it goes up", y.mod(BigInteger.valueOf(17)).signum(), 0);
        fault(6, head + "^cut 4 5 : " + y.divide(BigInteger.valueOf(17)) + " ; bound 1 ;");
        fine(head + "cut 4 5 : " + y.divide(BigInteger.valueOf(17)).subtract(BigInteger.ONE) + " ; bound 1 ;");
        // A branch may have a bound of 61 digits.
        fine(head + "branch 1 " + NINES + " bound 1 ; bound 1 ;");
        fault(6, head + "branch 1 " + NINES + " bound 1 ; ^cut 1 6 : 1 ; bound 1 ;");
        // Rows of 60 digits, taken 60 digits often.
        fault(6, head + "cut 1 1 : " + less + " ; ^cut 1 6 : " + NINES + " ; bound 1 ;");
        fine(head + "cut 1 1 : " + less + " ; cut " + NINES + " 6 : " + NINES + " ; bound 1 ;");
    }

    private static void order() {
        Kit.says("First 1 of the whole text; then from the left as it stands (3 of optimal ahead of 2; at one word 6 of TREES, 4, 6 "
            + "of rows)");
        model(PLAIN);
        fault(1, "optimal 99 / 1 at 9 9 / 1 bound 1 9 : 9 ;^?");
        fault(3, "^optimal 99 / 1 at 9 9 / 1 bound 1 9 : 9 ;");
        fault(2, "optimal 45 / 1 ^at 9 9 / 1 bound 1 9 : 9 ;");
        fault(4, "optimal 11 / 1 at 3 1 / 1 ^bound 1 9 : 9 ;");
        fault(1, "unbounded at 9 9 / 1 along 0 0 / ^0");
        fault(2, "unbounded ^at 9 9 / 1 along 0 0 / 1");
        fault(5, "unbounded at 3 1 / 1 ^along 0 0 / 1");
        model(WHOLE);
        fault(4, HEAD + "^branch 2 1 bound 1 9 : 9 ; bound 1 ;");
        fault(4, HEAD + "branch 1 1 ^bound 1 9 : 9 ; branch 2 1 bound 1 ; bound 1 ;");
        fault(4, HEAD + "branch 1 1 bound 1 2 : 1 ; ^branch 2 1 bound 1 ; bound 1 ;");
        String cuts = "cut 2 1 : 1 ; ".repeat(39);
        fault(4, HEAD + cuts + "^cut 2 1 : -1 ; bound 1 ;");
        fault(4, HEAD + cuts + "^cut 2 41 : 1 ; bound 1 ;");
        fault(4, HEAD + cuts + "^branch 2 1 bound 1 ; bound 1 ;");
        fault(6, HEAD + cuts + "^branch 1 1 bound 1 ; bound 1 ;");
        fault(4, HEAD + "^cut 1 1 : " + NINES + " 2 : 1 ; bound 1 ;");
        fault(6, HEAD + "^cut 1 1 : " + NINES + " ; bound 1 9 : 9 ;");
    }

    private static void full() {
        Kit.says("the tape's 30,000 bytes are all read");
        model(WHOLE);
        String good = HEAD + "cut 2 1 : 1 ; bound 1 2 : 1 ;";
        fine(good + " ".repeat(30000 - good.length()));
        fine(" ".repeat(30000 - good.length()) + good);
        fault(1, good + " ".repeat(29999 - good.length()) + "^;");
        fault(1, "infeasible ^" + ";".repeat(29000));
        fault(1, "infeasible ^" + "1 ".repeat(14000));
    }
}
