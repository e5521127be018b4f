/** Promise 1, and what every other promise answers without a model. */
public final class NewObjectTest {
    private static final int NONE = OptimumHouse.NONE;

    private NewObjectTest() {
    }

    public static void main(String[] args) {
        Kit.due("NONE", NONE, -1);
        asksNothing(new OptimumHouse());
        OptimumHouse failed = new OptimumHouse();
        Kit.due("tell of a text with a fault", Kit.tell(failed, "max x ;"), 2);
        Kit.due("fault(0)", failed.fault(0), 2);
        Kit.due("fault(1)", failed.fault(1), 4);
        Kit.due("check without a model", failed.check(), NONE);
        asksNothing(failed);
        Kit.done();
    }

    private static void asksNothing(OptimumHouse house) {
        int[] odd = {Integer.MIN_VALUE, -2, -1, 0, 1, 2, 13, 41, Integer.MAX_VALUE};
        for (int what = 0; what <= 9; what++) {
            Kit.due("look " + what, house.look(what), 0);
        }
        for (int what = 0; what <= 3; what++) {
            Kit.due("size " + what, house.size(what), 0);
        }
        Kit.due("fault 0", house.fault(0), 0);
        Kit.due("fault 1", house.fault(1), NONE);
        for (int a : odd) {
            Kit.due("begin " + a, house.begin(a), false);
            Kit.due("work " + a, house.work(a), a >= 1 && a <= 500 ? 0 : NONE);
            Kit.due("place " + a, house.place(a), NONE);
            Kit.due("proof " + a, house.proof(a), NONE);
            Kit.due("end " + a, house.end(a), a == 0);
            if (a < 0 || a > 9) {
                Kit.due("look " + a, house.look(a), NONE);
            }
            if (a < 0 || a > 3) {
                Kit.due("size " + a, house.size(a), NONE);
            }
            if (a < 0 || a > 1) {
                Kit.due("fault " + a, house.fault(a), NONE);
            }
            for (int b : odd) {
                Kit.due("coefficient " + a + ", " + b, house.coefficient(a, b), 0);
                Kit.due("entry " + a + ", " + b, house.entry(a, b, 0), NONE);
                Kit.due("told " + a + ", " + b, house.told(a, b), NONE);
            }
        }
        Kit.due("check", house.check(), NONE);
    }
}
