/** Promises 2 and 3: feed and end. */
public final class TapeTest {
    private TapeTest() {
    }

    public static void main(String[] args) {
        order();
        counts();
        ends();
        emptied();
        Kit.done();
    }

    /** The highest byte of each number comes first. */
    private static void order() {
        OptimumHouse house = new OptimumHouse();
        // "var x;max 2*x;row a:" "x<=3;"
        Kit.due("feed", house.feed(0x76617220, 0x783b6d61, 0x7820322a, 0x783b726f, 0x7720613a), 20);
        Kit.due("feed", house.feed(0x783c3d33, 0x3b000000, 0, -1, 0x80808080), 40);
        Kit.due("end", house.end(25), true);
        Kit.due("look 9", house.look(9), 25);
        Kit.due("tell", house.tell(), 0);
        Kit.due("c", house.coefficient(0, 1), 2);
        Kit.due("b", house.coefficient(1, 0), 3);
        // A byte above 127 is no token, and stands where it was put.
        house.feed(0x6d617820, 0x31ff0000, 0, 0, 0);
        house.end(6);
        Kit.due("tell", house.tell(), 1);
        Kit.due("place", house.fault(1), 5);
    }

    private static void counts() {
        OptimumHouse house = new OptimumHouse();
        for (int i = 1; i <= 1500; i++) {
            Kit.due("feed " + i, house.feed(0x20202020, 0x20202020, 0x20202020, 0x20202020, 0x20202020), 20 * i);
        }
        Kit.due("full", house.look(9), 30000);
        Kit.due("feed beyond", house.feed(1, 2, 3, 4, 5), OptimumHouse.NONE);
        Kit.due("still full", house.look(9), 30000);
        Kit.due("end", house.end(29981), true);
        Kit.due("feed beyond by one", house.feed(1, 2, 3, 4, 5), OptimumHouse.NONE);
        Kit.due("as it was", house.look(9), 29981);
        Kit.due("end", house.end(29980), true);
        Kit.due("feed to the limit", house.feed(1, 2, 3, 4, 5), 30000);
        Kit.due("tell of too much", house.tell(), 1);
        Kit.due("its place", house.fault(1), 2000);
    }

    private static void ends() {
        OptimumHouse house = new OptimumHouse();
        Kit.due("end of nothing", house.end(0), true);
        Kit.due("end beyond", house.end(1), false);
        house.feed(0, 0, 0, 0, 0);
        Kit.due("end at all", house.end(20), true);
        Kit.due("end beyond", house.end(21), false);
        Kit.due("end below 0", house.end(-1), false);
        Kit.due("end least", house.end(Integer.MIN_VALUE), false);
        Kit.due("end most", house.end(Integer.MAX_VALUE), false);
        Kit.due("all there", house.look(9), 20);
        Kit.due("end", house.end(7), true);
        Kit.due("look", house.look(9), 7);
        Kit.due("end again beyond", house.end(8), false);
        Kit.due("feed behind", house.feed(0, 0, 0, 0, 0), 27);
        Kit.due("end to none", house.end(0), true);
        Kit.due("look", house.look(9), 0);
    }

    /** tell and check leave an empty tape, whatever they answer. */
    private static void emptied() {
        OptimumHouse house = new OptimumHouse();
        Kit.due("tell with a fault", Kit.tell(house, "max x ;"), 2);
        Kit.due("look", house.look(9), 0);
        Kit.feed(house, "infeasible");
        Kit.due("check without a model", house.check(), OptimumHouse.NONE);
        Kit.due("look", house.look(9), 0);
        Kit.due("tell", Kit.tell(house, "max 1 ;"), 0);
        Kit.due("look", house.look(9), 0);
        Kit.due("check with a fault", Kit.check(house, "infeasible"), 1);
        Kit.due("look", house.look(9), 0);
        Kit.due("check", Kit.check(house, "optimal 1 / 1 at / 1 bound 1 ;"), 0);
        Kit.due("look", house.look(9), 0);
        Kit.due("tell of an empty tape", house.tell(), 1);
        Kit.due("place", house.fault(1), 0);
    }
}
