/** Promise 14: proofs as they are made, byte by byte. */
public final class ProofTest {
    private ProofTest() {
    }

    private static OptimumHouse proves(String text, int cuts, int end, String due) {
        OptimumHouse house = Kit.house(text);
        house.begin(cuts);
        Kit.due("no proof yet", house.proof(0), OptimumHouse.NONE);
        Kit.due("end of " + text, Kit.solve(house, cuts), end);
        Kit.due("proof of " + text, Kit.proof(house), due);
        Kit.due("bytes", house.look(8), due.length());
        Kit.due("byte behind", house.proof(due.length()), OptimumHouse.NONE);
        Kit.due("byte ahead", house.proof(-1), OptimumHouse.NONE);
        Kit.due("byte far behind", house.proof(Integer.MAX_VALUE), OptimumHouse.NONE);
        Kit.due("check", Kit.checking(house, due), "0");
        return house;
    }

    public static void main(String[] args) {
        proves("var x;var y;max 3*x+2*y;row a:x+y<=4;row b:x+3*y<=6;row c:x<=3;", 0, 2,
            "optimal 11 / 1 at 3 1 / 1 bound 1 1 : 2 3 : 1 ;");
        proves("var x;max x;row a:x<=1;row b:x>=3;", 0, 3, "infeasible farkas 2 1 : 1 2 : 1 ;");
        proves("var x;var y;max x+y;row a:x-y<=2;", 0, 4, "unbounded at 2 0 / 1 along 1 1 / 1");
        proves("var x;min 2*x+1;row a:3*x>=2;", 0, 2, "optimal 7 / 3 at 2 / 3 bound 3 1 : 2 ;");
        proves("var x whole;max x;row a:2*x<=3;", 0, 2,
            "optimal 1 / 1 at 1 / 1 branch 1 1 bound 1 2 : 1 ; farkas 2 1 : 1 2 : 2 ;");
        proves("var x whole;max x;row a:2*x<=3;", 1, 2,
            "optimal 1 / 1 at 1 / 1 cut 2 1 : 1 ; bound 1 2 : 1 ;");
        proves("min 7*6;", 0, 2, "optimal 42 / 1 at / 1 bound 1 ;");
        proves("max 0;", 0, 2, "optimal 0 / 1 at / 1 bound 1 ;");
        proves("var x;min x-5;", 0, 2, "optimal -5 / 1 at 0 / 1 bound 1 ;");
        proves("max 1;row a:1>=2;", 0, 3, "infeasible farkas 1 1 : 1 ;");
        proves("var x;max x;", 0, 4, "unbounded at 0 / 1 along 1 / 1");
        // The POINT over the least number that goes, which isn't D; the ray as it is.
        proves("var x;var y;max x+y;row a:4*x<=2;row b:3*x-3*y<=0;", 0, 4,
            "unbounded at 1 1 / 2 along 0 4 / 1");
        // A NODE whose bound is rounded down, or isn't.
        proves("var x whole;var y whole;max x+y;row a:2*x+2*y<=5;", 0, 2,
            "optimal 2 / 1 at 2 0 / 1 branch 1 2 branch 2 0 bound 1 2 : 1 3 : 1 ; bound 2 1 : 1 ; "
            + "farkas 2 1 : 1 2 : 2 ;");
        stays();
        Kit.done();
    }

    /** The proof goes with the work, and comes again. */
    private static void stays() {
        OptimumHouse house = proves("var x whole;max x;row a:2*x<=3;", 1, 2,
            "optimal 1 / 1 at 1 / 1 cut 2 1 : 1 ; bound 1 2 : 1 ;");
        house.begin(0);
        Kit.due("gone", house.proof(0), OptimumHouse.NONE);
        Kit.due("bytes", house.look(8), 0);
        house.work(500);
        Kit.due("again", Kit.proof(house),
            "optimal 1 / 1 at 1 / 1 branch 1 1 bound 1 2 : 1 ; farkas 2 1 : 1 2 : 2 ;");
        Kit.tell(house, "max 1");
        Kit.due("a tell with a fault leaves it", house.proof(0), 'o');
        Kit.tell(house, "max 1;");
        Kit.due("a new model has none", house.proof(0), OptimumHouse.NONE);
    }
}
