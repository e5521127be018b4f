/** Promises 6 and 7: size and coefficient. */
public final class ModelTest {
    private static final String MIXED = "set S=1..2;set T=0..2;par p[S,T]=1,2,3,-4,5,6;var x[S,T]whole;var y;"
        + "min 7+sum i in S(sum j in T(p[i,j]*x[i,j]))-3*y;"
        + "row a:x[1,0]+2<=y+5;row b[i in S]:sum j in T(i*x[i,j])>=i-10;row c:2*(y-4)=x[2,2];";

    private ModelTest() {
    }

    private static void row(OptimumHouse house, int k, long... due) {
        for (int j = 0; j < due.length; j++) {
            Kit.due("coefficient " + k + ", " + j, house.coefficient(k, j), due[j]);
        }
    }

    public static void main(String[] args) {
        OptimumHouse house = Kit.house(MIXED);
        Kit.due("n", house.size(0), 7);
        Kit.due("m", house.size(1), 5);
        Kit.due("wholes", house.size(2), 6);
        Kit.due("min", house.size(3), 0);
        Kit.due("size 4", house.size(4), OptimumHouse.NONE);
        Kit.due("size -1", house.size(-1), OptimumHouse.NONE);
        row(house, 0, -7, -1, -2, -3, 4, -5, -6, 3);
        row(house, 1, 3, 1, 0, 0, 0, 0, 0, -1);
        row(house, 2, 9, -1, -1, -1, 0, 0, 0, 0);
        row(house, 3, 8, 0, 0, 0, -2, -2, -2, 0);
        row(house, 4, 8, 0, 0, 0, 0, 0, -1, 2);
        row(house, 5, -8, 0, 0, 0, 0, 0, 1, -2);
        outside(house, 7, 5);
        house = Kit.house("var x;max 5-2*x;");
        Kit.due("max", house.size(3), 1);
        Kit.due("wholes", house.size(2), 0);
        row(house, 0, 5, -2);
        empty();
        ofNodes();
        beyondLong();
        Kit.done();
    }

    private static void outside(OptimumHouse house, int n, int m) {
        int[] odd = {Integer.MIN_VALUE, -1, Integer.MAX_VALUE};
        for (int a : odd) {
            Kit.due("row " + a, house.coefficient(a, 1), 0);
            Kit.due("variable " + a, house.coefficient(1, a), 0);
            Kit.due("both " + a, house.coefficient(a, a), 0);
        }
        Kit.due("row m + 1", house.coefficient(m + 1, 0), 0);
        Kit.due("variable n + 1", house.coefficient(1, n + 1), 0);
        Kit.due("goal n + 1", house.coefficient(0, n + 1), 0);
    }

    private static void empty() {
        OptimumHouse house = Kit.house("min 7*6;");
        Kit.due("n", house.size(0), 0);
        Kit.due("m", house.size(1), 0);
        Kit.due("c0", house.coefficient(0, 0), -42);
        outside(house, 0, 0);
        house = Kit.house("max 0;row a:1>=2;");
        Kit.due("m", house.size(1), 1);
        Kit.due("b", house.coefficient(1, 0), -1);
    }

    /** The rows of the NODE that is worked: here x at most 1, then x at least 2. */
    private static void ofNodes() {
        OptimumHouse house = Kit.house("var x whole;max x;row a:2*x<=3;");
        row(house, 1, 3, 2);
        row(house, 2, 0, 0);
        house.begin(0);
        row(house, 1, 3, 2);
        row(house, 2, 0, 0);
        house.work(1);
        row(house, 2, 1, 1);
        row(house, 3, 0, 0);
        house.work(1);
        Kit.due("optimal", house.look(0), 2);
        row(house, 2, -2, -1);
        house.begin(1);
        row(house, 2, 0, 0);
        house.work(500);
        row(house, 2, 1, 1);
        Kit.due("tell anew", Kit.tell(house, "var x whole;max x;row a:2*x<=3;"), 0);
        row(house, 2, 0, 0);
    }

    /** Branches at a great value: the bound's lowest 64 bits. */
    private static void beyondLong() {
        // e = 99999^4 d, so the LP's e is about 10^20 and a half.
        OptimumHouse house = Kit.house("var a;var b;var c;var d;var e whole;max e;row r0:2*a=99999;"
            + "row r1:b=99999*a;row r2:c=99999*b;row r3:d=99999*c;row r4:e<=d;");
        Kit.due("begin", house.begin(0), true);
        for (int i = 0; i < 1000 && house.look(5) == house.size(1) && house.look(0) == 1; i++) {
            house.work(1);
        }
        java.math.BigInteger value = java.math.BigInteger.valueOf(99999).pow(4).shiftRight(1);
        int k = house.look(5);
        Kit.due("a row more", k, house.size(1) + 1);
        Kit.due("beyond a long", value.bitLength() > 64 ? 1 : 0, 1);
        Kit.due("bound", house.coefficient(k, 0), value.longValue());
        Kit.due("coefficient", house.coefficient(k, 5), 1);
        Kit.solve(house, 0);
        k = house.look(5);
        Kit.due("bound of the second", house.coefficient(k, 0),
            value.add(java.math.BigInteger.ONE).negate().longValue());
        Kit.due("coefficient of the second", house.coefficient(k, 5), -1);
    }
}
