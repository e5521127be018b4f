import java.math.BigInteger;
import java.util.Random;
import java.util.TreeMap;

/** Terms, 2. DICTIONARIES, sentence by sentence, with each choice among several (promises 8, 9, 11 and 12). */
public final class DictionaryEdgesTest {
    private static final int NONE = OptimumHouse.NONE;
    private static final BigInteger MOST = BigInteger.TEN.pow(54);
    /** How often a choice among several was met, so that no sentence holds for want of a case. */
    private static final TreeMap<String, Integer> MET = new TreeMap<>();

    private DictionaryEdgesTest() {
    }

    public static void main(String[] args) {
        atFirst();
        needsPhaseOne();
        fullAtFirst();
        firstPivot();
        emptyOrNot();
        placeOfHelper();
        steps();
        ray();
        stepDownEmpty();
        tooBigAbove();
        tooBigBelow();
        tooBigPhaseOne();
        tooBigDown();
        point();
        Kit.done();
    }

    private static void atFirst() {
        Kit.says("AT FIRST: D 1, B(i) n + i for rows i, T(i, 0) b, T(i, j) a; N(j) j; of the goal T(z, 0) c0, T(z, j) -c");
        OptimumHouse house = Kit.house("var x;var y;var u;max 3*x-2*y+9;row a:x+y<=4;row b:x-3*y+u<=0;");
        house.begin(0);
        Kit.due("dictionary", Shown.of(house).text(),
            "[0, 4, 5][0, 1, 2, 3] D 1\n[9, -3, 2, 0]\n[4, 1, 1, 0]\n[0, 1, -3, 1]\n");
        house = Kit.house("max 5;");
        house.begin(20);
        Kit.due("of nothing", Shown.of(house).text(), "[0][0] D 1\n[5]\n");
        house = Kit.house("max 5;row a:1<=1;");
        house.begin(0);
        Kit.due("without variables", Shown.of(house).text(), "[0, 1][0] D 1\n[5]\n[0]\n");
        house = Kit.house("var x;min 5-x;");
        house.begin(0);
        Kit.due("without rows", Shown.of(house).text(), "[0][0, 1] D 1\n[-5, -1]\n");
    }

    private static void needsPhaseOne() {
        Kit.says("If some b is below 0: PHASE 1: a place n + 1 comes, N 0, T(i, n + 1) -1 (of z 0), and another goal w: "
            + "T(w, n + 1) 1, all else 0");
        OptimumHouse house = Kit.house("var x;max x;row a:x>=0;row b:x<=5;");
        house.begin(0);
        Kit.due("b 0: phase", house.look(7), 2);
        Kit.due("b 0: no w", house.entry(-1, 0, 0), NONE);
        Kit.due("b 0: no place", house.place(-2), NONE);
        house = Kit.house("var x;max x+7;row b:x<=5;row a:x>=1;");
        house.begin(0);
        Kit.due("b -1: phase", house.look(7), 1);
        Kit.due("b -1", Shown.of(house).text(),
            "[0, 2, 3][0, 1, 0] D 1\nw [0, 0, 1]\n[7, -1, 0]\n[5, 1, -1]\n[-1, -1, -1]\n");
        Kit.due("no place behind it", house.place(-3), NONE);
        Kit.due("no entry behind it", house.entry(-1, 3, 0), NONE);
        house = Kit.house("max 1;row a:1<=1;row b:1>=2;");
        house.begin(0);
        Kit.due("without variables", Shown.of(house).text(), "[0, 1, 2][0, 0] D 1\nw [0, 1]\n[1, 0]\n[0, -1]\n[-1, -1]\n");
    }

    private static void fullAtFirst() {
        Kit.says("a place n + 1 comes: with 12 variables and 16 rows");
        OptimumHouse house = Kit.house("set S=1..12;var x[S];min sum i in S(x[i]);"
            + "row a[i in S]:i*x[i]>=7;row b:x[1]=9;row c:x[12]=8;");
        house.begin(0);
        Shown shown = Shown.of(house);
        Kit.due("rows", shown.rows(), 16);
        Kit.due("places", shown.places(), 13);
        Kit.due("N(13)", house.place(-13), 0);
        Kit.due("B(16)", house.place(16), 28);
        Kit.due("T(w, 13)", Kit.entry(house, -1, 13), "1");
        Kit.due("T(z, 13)", Kit.entry(house, 0, 13), "0");
        Kit.due("T(16, 13)", Kit.entry(house, 16, 13), "-1");
        Kit.due("T(16, 12)", Kit.entry(house, 16, 12), "-1");
        Kit.due("T(17, 0)", house.entry(17, 0, 0), NONE);
        Kit.due("T(16, 14)", house.entry(16, 14, 0), NONE);
        Kit.due("ends", Kit.solve(house, 0), 2);
        Kit.due("places at the end", Shown.of(house).places(), 12);
        Kit.due("check", Kit.checking(house, Kit.proof(house)), "0");
    }

    private static void firstPivot() {
        Kit.says("The first PIVOT is at the row with the least b (of several the first), n + 1");
        firstAt("row a:x>=2;row b:y>=3;row c:x+y>=3;", 2);
        firstAt("row a:x>=3;row b:y>=3;row c:x+y>=3;", 1);
        firstAt("row a:x<=3;row b:y>=3;row c:x+y>=4;", 3);
        firstAt("row a:x>=1;row b:x<=0;", 1);
        firstAt("row a:x<=0;row b:x>=1;", 2);
    }

    private static void firstAt(String rows, int r) {
        OptimumHouse house = Kit.house("var x;var y;max 0;" + rows);
        house.begin(0);
        Shown before = Shown.of(house);
        Kit.due("work", house.work(1), 1);
        Kit.due("first pivot of " + rows, Shown.of(house).text(), before.pivoted(r, 3).text());
        Kit.due("still phase 1", house.look(7), 1);
    }

    private static void emptyOrNot() {
        Kit.says("STEPS UP by w, till there is none. Then, T(w, 0) below 0: it is empty");
        ends("var x;max x;row a:x<=2;row b:x>=2;", 2);
        ends("var x;max x;row a:x<=2;row b:x>=3;", 3);
        ends("var x;max x;row a:99999*x<=1;row b:99998*x>=1;", 3);
        ends("var x;max x;row a:99998*x<=1;row b:99999*x>=1;", 2);
        ends("max 0;row a:0>=0;", 2);
        ends("max 0;row a:0>=1;", 3);
        ends("max 0;row a:0=0;", 2);
    }

    private static void ends(String text, int due) {
        OptimumHouse house = Kit.house(text);
        Kit.due("end of " + text, Kit.solve(house, 0), due);
        Kit.due("w stays only where it is empty", house.entry(-1, 0, 0) != NONE, due == 3);
        Kit.due("phase", house.look(7), due == 3 ? 1 : 2);
    }

    private static void placeOfHelper() {
        Kit.says("the place of 0 goes (the last one comes in its place), and w");
        // 0 is in place 1 of 2 and of 3 when it goes; in the second model it is the last one.
        dropped("var x;var y;max 0-x-y;row a:x+y>=2;", 1, 2);
        dropped("var x;var y;max 0-y;row a:y<=9;row b:y>=3;row c:x<=1;", 2, 2);
        dropped("var x;max 0-x;row a:0<=1;row b:x>=1;", 1, 2);
    }

    private static void dropped(String text, int place, int pivots) {
        OptimumHouse house = Kit.house(text);
        house.begin(0);
        Shown before = Shown.of(house);
        int done = 0;
        for (; done < 100 && house.look(7) == 1; done++) {
            before = Shown.of(house);
            Kit.due("work", house.work(1), 1);
        }
        int gone = NONE;
        for (int r = 1; r <= before.rows(); r++) {
            for (int s = 1; s <= before.places(); s++) {
                if (before.basic[r] == 0 && before.t[r][s].signum() != 0) {
                    Shown after = before.pivoted(r, s);
                    after.dropHelper();
                    gone = after.text().equals(Shown.of(house).text()) ? s : gone;
                }
            }
        }
        Kit.due("0 went from its place in " + text, gone, place);
        Kit.due("places", Shown.of(house).places(), house.size(0));
        Kit.due("w", house.entry(-1, 0, 0), NONE);
        Kit.due("phase", house.look(7), 2);
        Kit.due("pivots of phase 1", done, pivots);
    }

    /** Every PIVOT of many works, as the dictionary ahead of it asks. */
    private static void steps() {
        for (int round = 0; round < 150 && !Kit.failed(); round++) {
            Random random = Kit.random(77, round);
            String text = Models.text(Models.random(random), random);
            if (text.length() <= 2000) {
                watch(text, random.nextInt(4));
            }
        }
        String[] needed = {"up: the least NUMBER isn't in the first place", "up: equal shares, the least NUMBER isn't the first",
            "up: a row with T 0", "up: a row with T below 0", "up: a share of 0", "down: the least NUMBER isn't the first",
            "down: equal shares, the least NUMBER isn't the first", "down: a place with T 0", "down: p below 0, D above 1",
            "up: p above 0, D above 1", "phase 1: w", "0 went"};
        for (String what : needed) {
            Kit.says("STEP UP and STEP DOWN, case: " + what);
            Kit.due("met", MET.getOrDefault(what, 0) > 0, true);
        }
    }

    private static void met(String what) {
        MET.merge(what, 1, Integer::sum);
    }

    private static void watch(String text, int cuts) {
        OptimumHouse house = Kit.house(text);
        house.begin(cuts);
        house.work(1);
        for (int i = 0; i < 30 && house.look(0) == 1 && !Kit.failed(); i++) {
            Shown before = Shown.of(house);
            int phase = house.look(7);
            int nodes = house.look(2);
            int[] at = phase == 3 ? down(before) : up(before, phase == 1 ? before.w : before.t[0]);
            house.work(1);
            if (house.look(0) == 5) {
                return;
            }
            Shown due = before.pivoted(at[0], at[1]);
            if (due.w != null && house.look(7) != 1) {
                due.dropHelper();
                met("0 went");
            }
            if (house.look(2) == nodes) {
                Kit.says(phase == 3 ? "STEP DOWN" : "STEP UP");
                Kit.due("pivot " + house.look(1) + " of " + text, Shown.of(house).text(), due.text());
            }
        }
    }

    private static int[] up(Shown shown, BigInteger[] goal) {
        int s = 0;
        for (int j = 1; j <= shown.places(); j++) {
            if (goal[j].signum() < 0 && (s == 0 || shown.free[j] < shown.free[s])) {
                if (s != 0) {
                    met("up: the least NUMBER isn't in the first place");
                }
                s = j;
            }
        }
        int r = 0;
        for (int i = 1; i <= shown.rows(); i++) {
            int sign = shown.t[i][s].signum();
            if (sign <= 0) {
                met(sign == 0 ? "up: a row with T 0" : "up: a row with T below 0");
                continue;
            }
            int order = r == 0 ? -1 : shown.t[i][0].multiply(shown.t[r][s])
                .compareTo(shown.t[r][0].multiply(shown.t[i][s]));
            if (order == 0 && shown.basic[i] < shown.basic[r]) {
                met("up: equal shares, the least NUMBER isn't the first");
            }
            if (order < 0 || order == 0 && shown.basic[i] < shown.basic[r]) {
                r = i;
            }
        }
        if (r > 0) {
            met(shown.t[r][0].signum() == 0 ? "up: a share of 0" : "up: a share above 0");
            met(shown.d.equals(BigInteger.ONE) ? "up: D 1" : "up: p above 0, D above 1");
        }
        if (goal == shown.w) {
            met("phase 1: w");
        }
        return new int[] {r, s};
    }

    private static int[] down(Shown shown) {
        int r = 0;
        for (int i = 1; i <= shown.rows(); i++) {
            if (shown.t[i][0].signum() < 0 && (r == 0 || shown.basic[i] < shown.basic[r])) {
                if (r != 0) {
                    met("down: the least NUMBER isn't the first");
                }
                r = i;
            }
        }
        int s = 0;
        for (int j = 1; j <= shown.places(); j++) {
            if (shown.t[r][j].signum() == 0) {
                met("down: a place with T 0");
            }
            if (shown.t[r][j].signum() >= 0) {
                continue;
            }
            int order = s == 0 ? -1 : shown.t[0][j].multiply(shown.t[r][s].negate())
                .compareTo(shown.t[0][s].multiply(shown.t[r][j].negate()));
            if (order == 0 && shown.free[j] < shown.free[s]) {
                met("down: equal shares, the least NUMBER isn't the first");
            }
            if (order < 0 || order == 0 && shown.free[j] < shown.free[s]) {
                s = j;
            }
        }
        met(shown.d.equals(BigInteger.ONE) ? "down: D 1" : "down: p below 0, D above 1");
        return new int[] {r, s};
    }

    private static void ray() {
        Kit.says("of the rows with T(i, j) above 0 ..; without such a row: a RAY (by z alone)");
        String[] rays = {"var x;max x;", "var x;var y;max x;row a:y<=3;", "var x;var y;max x;row a:y-x<=3;",
            "var x;max x;row a:x>=3;"};
        for (String text : rays) {
            OptimumHouse house = Kit.house(text);
            Kit.due("ray of " + text, Kit.solve(house, 0), 4);
            Kit.due("phase", house.look(7), 2);
        }
        Kit.due("not one with T 1", Kit.solve(Kit.house("var x;max x;row a:x<=0;"), 0), 2);
        Kit.due("not one with T(z, j) 0", Kit.solve(Kit.house("var x;max 0*x;"), 0), 2);
    }

    private static void stepDownEmpty() {
        Kit.says("STEP DOWN: .. without such a place it is empty; the rows with T(i, 0) below 0");
        OptimumHouse house = Kit.house("var x whole;max x;row a:2*x<=3;");
        house.begin(0);
        house.work(2);
        // x at least 2: T(3, 0) is -1 and no T(3, j) below 0.
        Kit.due("dictionary", Shown.of(house).text(), "[0, 1, 3][0, 2] D 2\n[3, 1]\n[3, 1]\n[-1, 1]\n");
        Kit.due("optimal", house.look(0), 2);
        Kit.due("its leaf", Kit.proof(house).endsWith("farkas 2 1 : 1 2 : 2 ;"), true);
        // A T(i, j) of 0 isn't below 0: y can't help.
        house = Kit.house("var x whole;var y;max x;row a:2*x+0*y<=3;");
        Kit.due("optimal", Kit.solve(house, 0), 2);
        Kit.due("pivots", house.look(1), 2);
    }

    /** The digits of 10 ^ 54 - 1 to the bases p: first 12,499, then p - 1 each. */
    private static final String BASES = "par p[T]=80000,80000,80000,80000,80000,80000,12500,12500,12500,12500,12500;";

    private static void tooBigAbove() {
        Kit.says("TOO BIG: one of these would become 10 to the power 54 or more (the dictionary stays as it was, the PIVOT "
            + "isn't counted)");
        String head = "set S=1..12;set T=1..11;" + BASES + "var x[S];max x[12];row r0:x[1]<=";
        OptimumHouse house = Kit.house(head + "12499;row r[i in T]:x[i+1]<=p[i]*x[i]+p[i]-1;");
        Kit.due("10 ^ 54 - 1", Kit.solve(house, 0), 2);
        Kit.due("its entry", Kit.entry(house, 0, 0), MOST.subtract(BigInteger.ONE).toString());
        Kit.due("its pivots", house.look(1), 12);
        Kit.due("its value", Kit.told(house, 0), "9".repeat(54));
        Kit.due("check", Kit.checking(house, Kit.proof(house)), "0");
        house = Kit.house(head + "12500;row r[i in T]:x[i+1]<=p[i]*x[i];");
        house.begin(0);
        Kit.due("work", house.work(11), 11);
        String before = Shown.of(house).text();
        Kit.due("it goes on", house.look(0), 1);
        Kit.due("10 ^ 54", house.work(500), 0);
        Kit.due("TOO BIG", house.look(0), 5);
        Kit.due("pivots", house.look(1), 11);
        Kit.due("the dictionary stays", Shown.of(house).text(), before);
        Kit.due("and goes no further", house.work(1), 0);
    }

    private static void tooBigBelow() {
        Kit.says("TOO BIG: .. either way");
        String head = "set S=1..12;set T=1..11;" + BASES + "var x[S];max x[12];row r0:x[1]<=0;"
            + "row r[i in T]:x[i+1]<=p[i]*x[i];row e:";
        OptimumHouse house = Kit.house(head + "12499*x[12]+sum i in T((p[i]-1)*x[i])>=0;");
        house.begin(0);
        Kit.due("work", house.work(11), 11);
        Kit.due("1 - 10 ^ 54", Kit.entry(house, 13, 1), MOST.subtract(BigInteger.ONE).negate().toString());
        Kit.due("it goes on", house.look(0), 1);
        Kit.due("optimal", house.work(500) > 0 && house.look(0) == 2, true);
        house = Kit.house(head + "12500*x[12]>=0;");
        Kit.due("-10 ^ 54", Kit.solve(house, 0), 5);
        Kit.due("pivots", house.look(1), 10);
    }

    private static void tooBigPhaseOne() {
        Kit.says("TOO BIG: (of w, too): in PHASE 1");
        // x(i) at least p x(i - 1), and x(1) at least 1: w has what 0 has, turned.
        OptimumHouse house = Kit.house("set S=1..12;set T=1..11;var x[S];min x[12];row r0:x[1]>=99999;"
            + "row r[i in T]:x[i+1]>=99999*x[i]+99999;");
        house.begin(0);
        Kit.due("phase", house.look(7), 1);
        for (int i = 0; i < 100 && house.look(0) == 1; i++) {
            house.work(1);
        }
        Kit.due("TOO BIG", house.look(0), 5);
        Kit.due("phase", house.look(7), 1);
        Kit.due("w stands", house.entry(-1, 0, 0) != NONE, true);
        Shown shown = Shown.of(house);
        int[] at = up(shown, shown.w);
        Kit.due("it would be", greatest(shown.pivoted(at[0], at[1])).compareTo(MOST) >= 0, true);
        Kit.due("it isn't", greatest(shown).compareTo(MOST) < 0, true);
    }

    private static void tooBigDown() {
        Kit.says("TOO BIG: by a STEP DOWN");
        // One of the random models gets there.
        Random random = Kit.random(78, 312);
        OptimumHouse house = Kit.house(Models.text(Models.huge(random), random));
        Kit.due("TOO BIG", Kit.solve(house, 5), 5);
        Kit.due("phase", house.look(7), 3);
        Shown shown = Shown.of(house);
        int[] at = down(shown);
        Kit.due("it would be", greatest(shown.pivoted(at[0], at[1])).compareTo(MOST) >= 0, true);
        Kit.due("it isn't", greatest(shown).compareTo(MOST) < 0, true);
    }

    private static BigInteger greatest(Shown shown) {
        BigInteger most = shown.d;
        for (BigInteger[] row : shown.t) {
            for (BigInteger number : row) {
                most = most.max(number.abs());
            }
        }
        return most;
    }

    private static void point() {
        Kit.says("Its POINT: B(i) = T(i, 0) / D, others 0; its VALUE T(z, 0) / D");
        OptimumHouse house = Kit.house("var x;var y;var u;max 3*x+2*y-u;row a:4*x+y<=9;row b:x+3*y<=7;");
        Kit.due("optimal", Kit.solve(house, 0), 2);
        Kit.due("dictionary", Shown.of(house).text(), "[0, 1, 2][0, 4, 5, 3] D 11\n[98, 7, 5, 11]\n[20, 3, -1, 0]\n[19, -1, 4, 0]\n");
        Kit.due("x", Kit.told(house, 1), "20/11");
        Kit.due("y", Kit.told(house, 2), "19/11");
        Kit.due("u", Kit.told(house, 3), "0");
        Kit.due("value", Kit.told(house, 0), "98/11");
    }
}
