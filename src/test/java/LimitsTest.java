/** Promises 9 and 10 at the limits of the work: TOO BIG and TOO MUCH. */
public final class LimitsTest {
    private static final int NONE = OptimumHouse.NONE;

    private LimitsTest() {
    }

    /** x(12) is at most bound * 80000 ^ 6 * 12500 ^ 5: with 12500 that is 10 ^ 54. */
    private static String chain(int bound, String goal) {
        return "set S=1..12;set T=1..11;par p[T]=80000,80000,80000,80000,80000,80000,12500,12500,12500,12500,12500;"
            + "var x[S];" + goal + ";row r0:x[1]<=" + bound + ";row r[i in T]:x[i+1]<=p[i]*x[i];";
    }

    public static void main(String[] args) {
        tooBig();
        fits();
        tooBigBelow();
        ends("a 41st row", "var x whole;var y whole;max 0;row a:2*x-2*y=1;", 0);
        ends("a 41st row on a second way", "set S=1..3;var x[S]whole;max 0;row a:sum i in S(2*x[i])=37;", 0);
        OptimumHouse house = ends("a 1,001st node", "set S=1..4;var x[S]whole;max 0;row a:sum i in S(2*x[i])=19;", 0);
        Kit.due("nodes", house.look(2), 1000);
        house = ends("more than 30,000 bytes of trees", odd("7,1,8,1,5,4,1,4,4,7,8", 11, 11), 0);
        Kit.due("fewer nodes", house.look(2) < 1000, true);
        Kit.due("fewer rows", house.look(5) < 40, true);
        // Its TREES have 30,000 bytes, which isn't too much; the word ahead of them is.
        house = ends("30,011 bytes when it is whole", "set S=1..10;par c[S]=2,8,2,0,6,1,2,1,5,0;"
            + "par e[S]=8,8,6,4,8,8,4,8,8,6;var x[S]whole;max sum i in S(c[i]*x[i]);"
            + "row a[i in S]:x[i]<=1;row b:sum i in S(e[i]*x[i])=37;", 0);
        Kit.due("nodes", house.look(2), 711);
        Kit.done();
    }

    private static String odd(String costs, int n, int sum) {
        return "set S=1.." + n + ";par c[S]=" + costs + ";var x[S]whole;max sum i in S(c[i]*x[i]);"
            + "row a[i in S]:x[i]<=1;row b:sum i in S(2*x[i])=" + sum + ";";
    }

    private static void tooBig() {
        OptimumHouse house = Kit.house(chain(12500, "max x[12]"));
        house.begin(0);
        Kit.due("work", house.work(11), 11);
        Kit.due("it goes on, ahead of the pivot", house.look(0), 1);
        String before = ReferenceWork.picture(house);
        Kit.due("work", house.work(500), 0);
        Kit.due("TOO BIG", house.look(0), 5);
        Kit.due("the pivot isn't counted", house.look(1), 11);
        Kit.due("the dictionary stays", ReferenceWork.picture(house), before.replace("status 1", "status 5"));
        Kit.due("no proof", house.proof(0), NONE);
        Kit.due("no bytes", house.look(8), 0);
        Kit.due("no work more", house.work(1), 0);
        Kit.due("anew", house.begin(0), true);
        Kit.due("goes on", house.look(0), 1);
        Kit.due("work at once", house.work(500), 11);
        Kit.due("TOO BIG", house.look(0), 5);
    }

    private static void fits() {
        OptimumHouse house = Kit.house(chain(12499, "max x[12]"));
        Kit.due("optimal", Kit.solve(house, 0), 2);
        Kit.due("pivots", house.look(1), 12);
        String value = "99992" + "0".repeat(49);
        Kit.due("value", Kit.told(house, 0), value);
        Kit.due("entry", Kit.entry(house, 0, 0), value);
        Kit.due("check", Kit.checking(house, Kit.proof(house)), "0");
    }

    /** Below 0, too. */
    private static void tooBigBelow() {
        OptimumHouse house = Kit.house(chain(12499, "max x[12]-0*x[1]"));
        Kit.due("optimal", Kit.solve(house, 0), 2);
        OptimumHouse below = Kit.house("set S=1..12;set T=1..11;var x[S];max x[12];"
            + "row r0:x[1]<=1;row r[i in T]:x[i+1]<=99999*x[i];");
        Kit.due("TOO BIG", Kit.solve(below, 0), 5);
        Kit.due("pivots", below.look(1), 10);
        Kit.due("the last that fits", Kit.entry(below, 0, 2), "-" + java.math.BigInteger.valueOf(99999).pow(10));
    }

    /** TOO MUCH, and all is as the reference has it. */
    private static OptimumHouse ends(String what, String text, int cuts) {
        OptimumHouse house = Kit.house(text);
        Kit.due(what, Kit.solve(house, cuts), 6);
        ReferenceWork reference = new ReferenceWork(ReferenceTell.model(text), cuts);
        reference.run();
        Kit.due(what + " as the reference has it", ReferenceWork.picture(house),
            reference.pictures.get(reference.pictures.size() - 1));
        Kit.due("no proof", house.proof(0), NONE);
        Kit.due("no work more", house.work(500), 0);
        return house;
    }
}
