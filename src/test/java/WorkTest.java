/** Promises 8 to 13: begin, work, look, place, entry and told, on works done by hand. */
public final class WorkTest {
    private static final int NONE = OptimumHouse.NONE;
    private static final String PLAIN = "var x;var y;max 3*x+2*y;row a:x+y<=4;row b:x+3*y<=6;row c:x<=3;";

    private WorkTest() {
    }

    /** Places (B, then N as "3 4 1 | 5 2") and the rows w, z, 1 .. as texts. */
    private static void dictionary(OptimumHouse house, String places, String d, String... rows) {
        StringBuilder found = new StringBuilder();
        for (int i = 1; house.place(i) != NONE; i++) {
            found.append(house.place(i) + " ");
        }
        found.append("|");
        int width = 0;
        for (int j = 1; house.place(-j) != NONE; j++) {
            found.append(" " + house.place(-j));
            width = j;
        }
        Kit.due("places", found.toString(), places);
        Kit.due("D", Kit.entry(house, -2, 0), d);
        boolean w = house.entry(-1, 0, 0) != NONE;
        int i = w ? -1 : 0;
        for (String row : rows) {
            StringBuilder text = new StringBuilder();
            for (int j = 0; j <= width; j++) {
                text.append((j > 0 ? " " : "") + Kit.entry(house, i, j));
            }
            Kit.due("row " + i, text.toString(), row);
            i++;
        }
        Kit.due("no row more", house.entry(i, 0, 0), NONE);
        Kit.due("no column more", house.entry(0, width + 1, 0), NONE);
    }

    private static void looks(OptimumHouse house, int... due) {
        for (int what = 0; what < due.length; what++) {
            Kit.due("look " + what, house.look(what), due[what]);
        }
    }

    public static void main(String[] args) {
        begins();
        works();
        plain();
        empty();
        ray();
        lowest();
        branch();
        cut();
        needsNone();
        places();
        Kit.done();
    }

    private static void begins() {
        OptimumHouse house = Kit.house(PLAIN);
        int[] odd = {Integer.MIN_VALUE, -1, 21, Integer.MAX_VALUE};
        for (int cuts : odd) {
            Kit.due("begin " + cuts, house.begin(cuts), false);
        }
        looks(house, 0, 0, 0, 0, 0, 0, 0, 0, 0);
        for (int cuts = 0; cuts <= 20; cuts++) {
            Kit.due("begin " + cuts, house.begin(cuts), true);
        }
        house.work(1);
        Kit.due("pivots", house.look(1), 1);
        Kit.due("a begin that is refused does nothing", house.begin(21), false);
        Kit.due("pivots", house.look(1), 1);
        Kit.due("anew", house.begin(0), true);
        looks(house, 1, 0, 1, 0, 0, 3, 0, 2, 0, 0);
        dictionary(house, "3 4 5 | 1 2", "1", "0 -3 -2", "4 1 1", "6 1 3", "3 1 0");
    }

    private static void works() {
        OptimumHouse house = Kit.house(PLAIN);
        Kit.due("without work", house.work(1), 0);
        Kit.due("0 without work", house.work(0), NONE);
        house.begin(0);
        int[] odd = {Integer.MIN_VALUE, -1, 0, 501, Integer.MAX_VALUE};
        for (int n : odd) {
            Kit.due("work " + n, house.work(n), NONE);
        }
        looks(house, 1, 0, 1);
        Kit.due("500", house.work(500), 2);
        looks(house, 2, 2, 1, 1);
        Kit.due("behind the end", house.work(1), 0);
        Kit.due("0 behind the end", house.work(0), NONE);
        looks(house, 2, 2, 1, 1);
    }

    private static void plain() {
        OptimumHouse house = Kit.house(PLAIN);
        house.begin(0);
        Kit.due("work", house.work(1), 1);
        looks(house, 1, 1, 1, 0, 0, 3, 0, 2, 0, 0);
        dictionary(house, "3 4 1 | 5 2", "1", "9 3 -2", "1 -1 1", "3 -1 3", "3 1 0");
        Kit.due("no value yet", house.told(0, 0), NONE);
        Kit.due("no point yet", house.told(1, 0), NONE);
        Kit.due("price 1", Kit.told(house, -1), "0");
        Kit.due("price 3", Kit.told(house, -3), "3");
        Kit.due("work", house.work(1), 1);
        looks(house, 2, 2, 1, 1, 0, 3, 0, 2, Kit.proof(house).length(), 0);
        dictionary(house, "2 4 1 | 5 3", "1", "11 1 2", "1 -1 1", "0 2 -3", "3 1 0");
        Kit.due("value", Kit.told(house, 0), "11");
        Kit.due("x", Kit.told(house, 1), "3");
        Kit.due("y", Kit.told(house, 2), "1");
        Kit.due("no variable 3", house.told(3, 0), NONE);
        Kit.due("price 1", Kit.told(house, -1), "2");
        Kit.due("price 2", Kit.told(house, -2), "0");
        Kit.due("price 3", Kit.told(house, -3), "1");
        Kit.due("no row 4", house.told(-4, 0), NONE);
        Kit.due("byte 1", house.told(0, 1), '1');
        Kit.due("byte 2", house.told(0, 2), NONE);
        Kit.due("byte -1", house.told(0, -1), NONE);
        Kit.due("entry byte -1", house.entry(0, 0, -1), NONE);
        Kit.due("entry byte 2", house.entry(0, 0, 2), NONE);
        Kit.due("entry byte", house.entry(2, 2, 0), '-');
        Kit.due("entry byte", house.entry(2, 2, 1), '3');
    }

    private static void empty() {
        OptimumHouse house = Kit.house("var x;max x;row a:x<=1;row b:x>=3;");
        house.begin(0);
        looks(house, 1, 0, 1, 0, 0, 2, 0, 1, 0);
        dictionary(house, "2 3 | 1 0", "1", "0 0 1", "0 -1 0", "1 1 -1", "-3 -1 -1");
        house.work(1);
        looks(house, 1, 1, 1, 0, 0, 2, 0, 1, 0);
        dictionary(house, "2 0 | 1 3", "1", "-3 -1 1", "0 -1 0", "4 2 -1", "3 1 -1");
        Kit.due("work", house.work(500), 1);
        looks(house, 3, 2, 1, 0, 0, 2, 0, 1);
        dictionary(house, "1 0 | 2 3", "2", "-2 1 1", "4 1 -1", "4 1 -1", "2 -1 -1");
        Kit.due("no value", house.told(0, 0), NONE);
    }

    private static void ray() {
        OptimumHouse house = Kit.house("var x whole;var y;max x+y;row a:x-y<=2;");
        Kit.due("unbounded", Kit.solve(house, 3), 4);
        looks(house, 4, 1, 1, 0, 0, 1, 0, 2);
        Kit.due("no value", house.told(0, 0), NONE);
        Kit.due("no point", house.told(1, 0), NONE);
        Kit.due("price", Kit.told(house, -1), "1");
    }

    /** min, a fraction, phase 1 with its goal going when it is over. */
    private static void lowest() {
        OptimumHouse house = Kit.house("var x;min 2*x+1;row a:3*x>=2;");
        house.begin(0);
        dictionary(house, "2 | 1 0", "1", "0 0 1", "-1 2 0", "-2 -3 -1");
        Kit.due("work", house.work(1), 1);
        dictionary(house, "0 | 1 2", "1", "-2 -3 1", "-1 2 0", "2 3 -1");
        Kit.due("work", house.work(1), 1);
        looks(house, 2, 2, 1, 1, 0, 1, 0, 2);
        // The place of the helper, 1, went, and the last one came in its place.
        dictionary(house, "1 | 2", "3", "-7 2", "2 -1");
        Kit.due("value", Kit.told(house, 0), "7/3");
        Kit.due("x", Kit.told(house, 1), "2/3");
        Kit.due("price", Kit.told(house, -1), "2/3");
        Kit.due("byte", house.told(0, 1), '/');
        Kit.due("w is gone", house.entry(-1, 0, 0), NONE);
    }

    private static void branch() {
        OptimumHouse house = Kit.house("var x whole;max x;row a:2*x<=3;");
        house.begin(0);
        Kit.due("work", house.work(1), 1);
        // The first child has begun, and its first pivot lies ahead.
        looks(house, 1, 1, 2, 0, 0, 2, 1, 3, 0);
        dictionary(house, "1 3 | 2", "2", "3 1", "3 1", "-1 -1");
        Kit.due("work", house.work(1), 1);
        looks(house, 2, 2, 3, 1, 0, 2, 1, 3);
        dictionary(house, "1 3 | 2", "2", "3 1", "3 1", "-1 1");
        Kit.due("value", Kit.told(house, 0), "1");
        Kit.due("x", Kit.told(house, 1), "1");
        Kit.due("price", Kit.told(house, -1), "1/2");
        Kit.due("price of the row more", Kit.told(house, -2), "0");
    }

    private static void cut() {
        OptimumHouse house = Kit.house("var x whole;max x;row a:2*x<=3;");
        house.begin(1);
        house.work(1);
        looks(house, 1, 1, 2, 0, 1, 2, 1, 3, 0);
        dictionary(house, "1 3 | 2", "2", "3 1", "3 1", "-1 -1");
        house.work(1);
        looks(house, 2, 2, 2, 1, 1, 2, 1, 3);
        dictionary(house, "1 2 | 3", "1", "1 1", "1 1", "1 -2");
        Kit.due("price of the cut", Kit.told(house, -2), "1");
        // With a variable that isn't WHOLE there are no cuts.
        house = Kit.house("var x whole;var y;max x;row a:2*x+0*y<=3;");
        Kit.due("optimal", Kit.solve(house, 20), 2);
        Kit.due("cuts", house.look(4), 0);
        Kit.due("nodes", house.look(2), 3);
    }

    private static void needsNone() {
        OptimumHouse house = Kit.house("min 7*6;");
        house.begin(0);
        looks(house, 1, 0, 1, 0, 0, 0, 0, 2, 0);
        Kit.due("D", Kit.entry(house, -2, 0), "1");
        Kit.due("z", Kit.entry(house, 0, 0), "-42");
        Kit.due("work", house.work(1), 0);
        looks(house, 2, 0, 1, 1, 0, 0, 0, 2, "optimal 42 / 1 at / 1 bound 1 ;".length());
        Kit.due("value", Kit.told(house, 0), "42");
        house = Kit.house("max 1;row a:1>=2;");
        Kit.due("infeasible", Kit.solve(house, 0), 3);
        Kit.due("pivots", house.look(1), 1);
    }

    private static void places() {
        OptimumHouse house = Kit.house(PLAIN);
        house.begin(0);
        int[] odd = {Integer.MIN_VALUE, -3, 0, 4, Integer.MAX_VALUE};
        for (int i : odd) {
            Kit.due("place " + i, house.place(i), NONE);
        }
        Kit.due("entry of D, 1", house.entry(-2, 1, 0), NONE);
        Kit.due("entry of w", house.entry(-1, 0, 0), NONE);
        int[] untold = {Integer.MIN_VALUE, -4, 0, 1, 2, 3, Integer.MAX_VALUE};
        for (int j : untold) {
            Kit.due("told " + j, house.told(j, 0), NONE);
        }
        int[] wrong = {Integer.MIN_VALUE, -3, -2, 4, Integer.MAX_VALUE};
        for (int i : wrong) {
            Kit.due("entry " + i + ", 1", house.entry(i, 1, 0), NONE);
            Kit.due("entry 1, " + i, house.entry(1, i, 0), NONE);
            Kit.due("entry 1, 1 byte " + i, house.entry(1, 1, i), NONE);
            Kit.due("told 1 byte " + i, house.told(-1, i), NONE);
            Kit.due("look " + (i < 0 ? i : i + 6), house.look(i < 0 ? i : i + 6), NONE);
        }
    }
}
