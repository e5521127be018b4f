import java.math.BigInteger;

/** Promises 1 to 15, sentence by sentence: what is empty, what is full, and each call that is refused. */
public final class CallEdgesTest {
    private static final int NONE = OptimumHouse.NONE;
    private static final int LEAST = Integer.MIN_VALUE;
    private static final int MOST = Integer.MAX_VALUE;
    private static final String PLAIN = "var x;var y;max 3*x+2*y;row a:x+y<=4;row b:x+3*y<=6;row c:x<=3;";
    private static final String WHOLE = "var x whole;max x;row a:2*x<=3;";

    private CallEdgesTest() {
    }

    public static void main(String[] args) {
        newObject();
        feedOrder();
        feedFull();
        end();
        tellEmpties();
        tellKeeps();
        faultLatest();
        faultWhat();
        size();
        coefficientRows();
        coefficientLong();
        beginNumbers();
        beginAnew();
        workNumbers();
        workStops();
        workFiveHundred();
        lookStates();
        lookWithout();
        lookWhat();
        lookLatest();
        place();
        entry();
        toldBest();
        toldPrices();
        proof();
        check();
        Kit.done();
    }

    private static void newObject() {
        Kit.says("1: No model, an empty tape");
        OptimumHouse house = new OptimumHouse();
        Kit.due("tape", house.look(9), 0);
        Kit.due("nothing to end", house.end(1), false);
        Kit.due("size", house.size(0) + house.size(1) + house.size(2) + house.size(3), 0);
        Kit.due("begin", house.begin(0), false);
        Kit.due("check", house.check(), NONE);
        Kit.due("tell of the empty tape", house.tell(), 1);
        Kit.due("its place", house.fault(1), 0);
        Kit.due("NONE", NONE, -1);
        Kit.says("1: objects know nothing of one another");
        OptimumHouse other = Kit.house(PLAIN);
        other.begin(0);
        Kit.due("another's model", house.size(0), 0);
        Kit.due("another's work", house.look(0), 0);
        Kit.tell(house, WHOLE);
        Kit.due("one's own", other.size(0), 2);
    }

    private static void feedOrder() {
        Kit.says("2: Twenty bytes come behind those on the tape, of each number the highest first: how many there are");
        OptimumHouse house = new OptimumHouse();
        // "max 1;" and a byte of 255 that the tell stops at, at each of the twenty places in turn.
        for (int place = 6; place < 20; place++) {
            int[] five = {0x6d617820, 0x313b2020, 0x20202020, 0x20202020, 0x20202020};
            int shift = 24 - 8 * (place % 4);
            five[place / 4] = five[place / 4] & ~(255 << shift) | 255 << shift;
            Kit.due("feed", house.feed(five[0], five[1], five[2], five[3], five[4]), 20);
            Kit.due("tell", house.tell(), 1);
            Kit.due("place", house.fault(1), place);
        }
        Kit.due("feed", house.feed(0x6d617820, 0x31202020, 0x20202020, 0x20202020, 0x20202020), 20);
        Kit.due("feed behind", house.feed(0x3b202020, 0x20202020, 0x20202020, 0x20202020, 0x20202020), 40);
        Kit.due("one text", house.tell(), 0);
    }

    private static void feedFull() {
        Kit.says("2: NONE, doing nothing, when there would be more than 30,000");
        OptimumHouse house = new OptimumHouse();
        Kit.tell(house, WHOLE);
        for (int i = 1; i <= 1500; i++) {
            Kit.due("feed", house.feed(0x20202020, 0x20202020, 0x20202020, 0x20202020, 0x20202020), 20 * i);
        }
        Kit.due("30,000", house.look(9), 30000);
        Kit.due("30,020", house.feed(0, 0, 0, 0, 0), NONE);
        Kit.due("nothing", house.look(9), 30000);
        house.end(29981);
        Kit.due("30,001", house.feed(0, 0, 0, 0, 0), NONE);
        Kit.due("nothing", house.look(9), 29981);
        house.end(29980);
        Kit.due("30,000 again", house.feed(0x20202020, 0x20202020, 0x20202020, 0x20202020, 0x2020203b), 30000);
        Kit.due("the last byte is there", house.check(), 1);
        Kit.due("at it", house.fault(1), 29999);
        Kit.due("room again", house.feed(0, 0, 0, 0, 0), 20);
    }

    private static void end() {
        Kit.says("3: The tape has its first n bytes alone: true; false when it has not so many, or n is below 0");
        OptimumHouse house = new OptimumHouse();
        Kit.due("0 of 0", house.end(0), true);
        Kit.due("1 of 0", house.end(1), false);
        Kit.due("-1 of 0", house.end(-1), false);
        house.feed(0x6d617820, 0x313b3f3f, 0x3f3f3f3f, 0x3f3f3f3f, 0x3f3f3f3f);
        int[] bad = {LEAST, -1, 21, 22, 30000, MOST};
        for (int n : bad) {
            Kit.due("end " + n, house.end(n), false);
            Kit.due("as it was", house.look(9), 20);
        }
        Kit.due("20 of 20", house.end(20), true);
        Kit.due("all", house.look(9), 20);
        Kit.due("6 of 20", house.end(6), true);
        Kit.due("six", house.look(9), 6);
        Kit.due("7 of 6", house.end(7), false);
        Kit.due("the first six", house.tell(), 0);
        house.feed(0, 0, 0, 0, 0);
        Kit.due("0 of 20", house.end(0), true);
        Kit.due("none", house.look(9), 0);
    }

    private static void tellEmpties() {
        Kit.says("4: The tape, which is empty then, is a TEXT: 0 .. else its FAULT (more than 2,000 bytes: 1 at 2000)");
        OptimumHouse house = new OptimumHouse();
        String[] texts = {"max 1;", "max 1", "max x;", "set S=2..1;max 1;", " ".repeat(2000), " ".repeat(2001), " ".repeat(30000)};
        int[] due = {0, 1, 2, 3, 1, 1, 1};
        int[] places = {NONE, 5, 4, 4, 2000, 2000, 2000};
        for (int i = 0; i < texts.length; i++) {
            Kit.due("tell", Kit.tell(house, texts[i]), due[i]);
            Kit.due("fault 0", house.fault(0), due[i]);
            Kit.due("fault 1", house.fault(1), places[i]);
            Kit.due("tape", house.look(9), 0);
        }
    }

    private static void tellKeeps() {
        Kit.says("4: 0, and it is the model (its work not begun); else: the model before stays, and its work");
        OptimumHouse house = Kit.house(WHOLE);
        house.begin(1);
        house.work(1);
        String before = ReferenceWork.picture(house);
        String[] bad = {"", "var y;max y", "var y;max z;", "set S=2..1;max 1;", "var y;max y*y;", "set S=1..1;var y[S];max y[2];",
            "var y;var z;max y;row a:y<=1;row b:99999+1<=z;", "set S=1..12;var y[S];var z;max 1;", " ".repeat(2001)};
        for (String text : bad) {
            Kit.due("a fault", Kit.tell(house, text) != 0, true);
            Kit.due("the work stays", ReferenceWork.picture(house), before);
            Kit.due("n", house.size(0), 1);
            Kit.due("m", house.size(1), 1);
            Kit.due("wholes", house.size(2), 1);
            Kit.due("max", house.size(3), 1);
        }
        Kit.due("it goes on", house.work(500), 1);
        Kit.due("optimal", house.look(0), 2);
        Kit.due("a fault", Kit.tell(house, "max 1"), 1);
        Kit.due("the proof stays", house.proof(0), 'o');
        Kit.due("the same text", Kit.tell(house, WHOLE), 0);
        for (int what = 0; what <= 8; what++) {
            Kit.due("not begun: look " + what, house.look(what), 0);
        }
        Kit.due("not begun: place", house.place(1), NONE);
        Kit.due("not begun: entry", house.entry(-2, 0, 0), NONE);
        Kit.due("not begun: told", house.told(0, 0), NONE);
        Kit.due("not begun: proof", house.proof(0), NONE);
        Kit.due("not begun: row 2", house.coefficient(2, 1), 0);
        Kit.due("not begun: work", house.work(1), 0);
    }

    private static void faultLatest() {
        Kit.says("5: Of the latest tell(), or check(), that came later: 0 its FAULT (0 without one, or before any), 1 its PLACE "
            + "(NONE without)");
        OptimumHouse house = new OptimumHouse();
        faults(house, 0, NONE);
        Kit.tell(house, "max x;");
        faults(house, 2, 4);
        Kit.due("check without a model", house.check(), NONE);
        faults(house, 0, NONE);
        Kit.tell(house, WHOLE);
        faults(house, 0, NONE);
        Kit.check(house, "infeasible");
        faults(house, 1, 10);
        house.begin(0);
        house.work(500);
        house.feed(0, 0, 0, 0, 0);
        house.end(0);
        faults(house, 1, 10);
        Kit.tell(house, "max x;");
        faults(house, 2, 4);
        Kit.check(house, "optimal 1 / 1 at 1 / 1 cut 2 1 : 1 ; bound 1 2 : 1 ;");
        faults(house, 0, NONE);
        Kit.check(house, "optimal 2 / 1 at 1 / 1 cut 2 1 : 1 ; bound 1 2 : 1 ;");
        faults(house, 3, 0);
        Kit.tell(house, WHOLE);
        faults(house, 0, NONE);
    }

    private static void faults(OptimumHouse house, int kind, int place) {
        Kit.due("fault 0", house.fault(0), kind);
        Kit.due("fault 1", house.fault(1), place);
    }

    private static void faultWhat() {
        Kit.says("5: NONE for another what");
        OptimumHouse house = new OptimumHouse();
        int[] bad = {LEAST, -1, 2, MOST};
        for (int what : bad) {
            Kit.due("before any", house.fault(what), NONE);
        }
        Kit.tell(house, "max x;");
        for (int what : bad) {
            Kit.due("with one", house.fault(what), NONE);
        }
    }

    private static void size() {
        Kit.says("6: 0 n, 1 m, 2 how many are WHOLE, 3 whether it is max (1) or min (0; 0 without a model). 0 to 2 are 0 without a "
            + "model. NONE for another what");
        sizes(new OptimumHouse(), 0, 0, 0, 0);
        sizes(Kit.house("max 1;"), 0, 0, 0, 1);
        sizes(Kit.house("min 1;"), 0, 0, 0, 0);
        sizes(Kit.house("set S=1..12;var x[S]whole;max 1;row a[i in S]:x[i]<=1;row b:1=1;row c:1=1;"), 12, 16, 12, 1);
        sizes(Kit.house("set S=1..6;var x[S]whole;var y;min 1;row a:y=1;"), 7, 2, 6, 0);
        OptimumHouse house = Kit.house(WHOLE);
        Kit.solve(house, 0);
        Kit.due("rows of a NODE don't count", house.look(5), 2);
        sizes(house, 1, 1, 1, 1);
    }

    private static void sizes(OptimumHouse house, int... due) {
        for (int what = 0; what <= 3; what++) {
            Kit.due("size " + what, house.size(what), due[what]);
        }
        int[] bad = {LEAST, -1, 4, MOST};
        for (int what : bad) {
            Kit.due("size " + what, house.size(what), NONE);
        }
    }

    private static void coefficientRows() {
        Kit.says("7: Of row k (1 .. as many as the NODE has that is worked; without work m) the coefficient of variable j, or its "
            + "bound (j 0); of the GOAL (k 0) c, c0 (as they are turned). 0 without");
        Kit.due("without a model", new OptimumHouse().coefficient(0, 0), 0);
        OptimumHouse house = Kit.house("var x whole;var y;min 5-7*x;row a:2*x+y<=3;");
        coefficients(house, new long[][] {{-5, 7, 0}, {3, 2, 1}});
        house.begin(0);
        coefficients(house, new long[][] {{-5, 7, 0}, {3, 2, 1}});
        house.work(1);
        coefficients(house, new long[][] {{-5, 7, 0}, {3, 2, 1}, {1, 1, 0}});
        house.work(1);
        coefficients(house, new long[][] {{-5, 7, 0}, {3, 2, 1}, {-2, -1, 0}});
        Kit.due("optimal", house.look(0), 2);
        house.begin(0);
        coefficients(house, new long[][] {{-5, 7, 0}, {3, 2, 1}});
        house = Kit.house("set S=1..12;var x[S];max x[12];row a[i in S]:i*x[i]<=i;row b:x[1]=3;row c:x[12]=4;");
        Kit.due("row 16, 12", house.coefficient(16, 12), -1);
        Kit.due("row 16, 0", house.coefficient(16, 0), -4);
        Kit.due("row 17, 0", house.coefficient(17, 0), 0);
        Kit.due("row 0, 12", house.coefficient(0, 12), 1);
        Kit.due("row 0, 13", house.coefficient(0, 13), 0);
        Kit.due("row 16, 13", house.coefficient(16, 13), 0);
        // A model with less leaves nothing of the one before.
        Kit.due("tell", Kit.tell(house, "var x;max x;row a:x<=1;"), 0);
        coefficients(house, new long[][] {{0, 1}, {1, 1}});
    }

    private static void coefficients(OptimumHouse house, long[][] due) {
        int[] odd = {LEAST, -2, -1, 0, 1, 2, 3, 4, 5, 12, 13, 16, 17, 39, 40, 41, MOST};
        for (int k : odd) {
            for (int j : odd) {
                boolean there = k >= 0 && k < due.length && j >= 0 && j < due[0].length;
                Kit.due("coefficient " + k + ", " + j, house.coefficient(k, j), there ? due[k][j] : 0);
            }
        }
    }

    private static void coefficientLong() {
        Kit.says("7: Beyond a long its lowest 64 bits");
        // The branch is at v, half of 2 ^ 64 + 1 or of 2 ^ 64 - 1 rounded down: bounds v, then -v - 1.
        halves("+1", BigInteger.TWO.pow(63));
        halves("-1", BigInteger.TWO.pow(63).subtract(BigInteger.ONE));
        halves("+7", BigInteger.TWO.pow(63).add(BigInteger.valueOf(3)));
    }

    private static void halves(String more, BigInteger v) {
        OptimumHouse house = Kit.house("var e whole;var a;var b;var c;max e;row r:a=65536;row s:b=65536*a;row t:c=65536*b;"
            + "row u:2*e<=65536*c" + more + ";");
        house.begin(0);
        for (int i = 0; i < 100 && house.look(6) == 0; i++) {
            house.work(1);
        }
        Kit.due("bound v", house.coefficient(8, 0), v.longValue());
        Kit.due("its coefficient", house.coefficient(8, 1), 1);
        house.work(500);
        Kit.due("optimal", house.look(0), 2);
        Kit.due("value", Kit.told(house, 0), v.toString());
        Kit.due("bound -v - 1", house.coefficient(8, 0), v.add(BigInteger.ONE).negate().longValue());
        Kit.due("its coefficient", house.coefficient(8, 1), -1);
    }

    private static void beginNumbers() {
        Kit.says("8: with so many cuts allowed on a way (0 .. 20): true; false without a model, or for another number");
        OptimumHouse none = new OptimumHouse();
        OptimumHouse house = Kit.house(WHOLE);
        int[] bad = {LEAST, -1, 21, 22, MOST};
        for (int cuts : bad) {
            Kit.due("begin " + cuts, house.begin(cuts), false);
            Kit.due("not begun", house.look(0), 0);
            Kit.due("begin without a model", none.begin(cuts), false);
        }
        for (int cuts = 0; cuts <= 20; cuts++) {
            Kit.due("begin without a model", none.begin(cuts), false);
            Kit.due("begin " + cuts, house.begin(cuts), true);
            Kit.due("begun", house.look(0), 1);
        }
        house.work(1);
        String before = ReferenceWork.picture(house);
        for (int cuts : bad) {
            Kit.due("begin " + cuts, house.begin(cuts), false);
            Kit.due("the work stays", ReferenceWork.picture(house), before);
        }
    }

    private static void beginAnew() {
        Kit.says("8: The work begins anew: the dictionary AT FIRST is there");
        OptimumHouse house = Kit.house("var x whole;max x;row a:2*x<=5;row b:3*x>=2;");
        house.begin(0);
        String first = ReferenceWork.picture(house);
        for (int pivots = 1; pivots <= 12; pivots++) {
            house.work(pivots);
            Kit.due("begin", house.begin(pivots % 3), true);
            Kit.due("anew", ReferenceWork.picture(house), first);
        }
        house.work(500);
        Kit.due("ended", house.look(0), 2);
        house.begin(0);
        Kit.due("anew", ReferenceWork.picture(house), first);
        Kit.due("no proof", house.proof(0), NONE);
        Kit.due("no best", house.told(0, 0), NONE);
    }

    private static void workNumbers() {
        Kit.says("9: At most n PIVOTS (1 .. 500; NONE for another n): how many were done. (0 without work that goes on.)");
        OptimumHouse house = new OptimumHouse();
        int[] bad = {LEAST, -1, 0, 501, MOST};
        int[] good = {1, 2, 499, 500};
        works(house, bad, NONE);
        works(house, good, 0);
        Kit.tell(house, PLAIN);
        works(house, bad, NONE);
        works(house, good, 0);
        house.begin(0);
        works(house, bad, NONE);
        Kit.due("nothing was done", house.look(1), 0);
        Kit.due("two", house.work(500), 2);
        works(house, bad, NONE);
        works(house, good, 0);
        Kit.due("two in all", house.look(1), 2);
    }

    private static void works(OptimumHouse house, int[] numbers, int due) {
        for (int n : numbers) {
            Kit.due("work " + n, house.work(n), due);
        }
    }

    private static void workStops() {
        Kit.says("9: It goes on behind the last one up to ahead of the next PIVOT, or its end (also when it needs none)");
        OptimumHouse house = Kit.house(PLAIN);
        house.begin(0);
        Kit.due("one", house.work(1), 1);
        Kit.due("it goes on", house.look(0), 1);
        Kit.due("the second", house.work(1), 1);
        Kit.due("its end", house.look(0), 2);
        house.begin(0);
        Kit.due("as many as there are", house.work(2), 2);
        Kit.due("its end", house.look(0), 2);
        house = Kit.house("var x;max 0-x;row a:x<=1;");
        house.begin(0);
        Kit.due("begin ends nothing", house.look(0), 1);
        Kit.due("none needed", house.work(1), 0);
        Kit.due("its end", house.look(0), 2);
        house = Kit.house("var x;max x;");
        house.begin(0);
        Kit.due("a ray at once", house.work(500), 0);
        Kit.due("its end", house.look(0), 4);
        // Behind the last PIVOT the child begins; its own first PIVOT lies ahead.
        house = Kit.house(WHOLE);
        house.begin(0);
        Kit.due("one", house.work(1), 1);
        Kit.due("the child has begun", house.look(2), 2);
        Kit.due("phase", house.look(7), 3);
        // PHASE 1 ends, and PHASE 2's first PIVOT lies ahead.
        house = Kit.house("var x;max x;row a:x>=1;row b:x<=9;");
        house.begin(0);
        house.work(2);
        Kit.due("phase", house.look(7), 2);
        Kit.due("w is gone", house.entry(-1, 0, 0), NONE);
        Kit.due("it goes on", house.look(0), 1);
    }

    private static void workFiveHundred() {
        Kit.says("9: At most n PIVOTS: 500 of them, and one by one it is the same");
        String text = "set S=1..4;par c[S]=5,8,8,1;par e[S]=4,4,6,6;var x[S]whole;max sum i in S(c[i]*x[i]);"
            + "row b:sum i in S(e[i]*x[i])=51;";
        OptimumHouse house = Kit.house(text);
        house.begin(1);
        Kit.due("500", house.work(500), 500);
        Kit.due("in all", house.look(1), 500);
        OptimumHouse slow = Kit.house(text);
        slow.begin(1);
        for (int i = 0; i < 500; i++) {
            Kit.due("one", slow.work(1), 1);
        }
        Kit.due("the same", ReferenceWork.picture(slow), ReferenceWork.picture(house));
        Kit.due("499", house.work(499), 499);
        Kit.due("500", house.work(500), 500);
        Kit.due("the rest", house.work(500), 234);
        Kit.due("in all", house.look(1), 1733);
        Kit.due("infeasible", house.look(0), 3);
    }

    private static void lookStates() {
        Kit.says("10: 0: 0 none, 1 it goes on, 2 OPTIMAL, 3 INFEASIBLE, 4 UNBOUNDED, 5 TOO BIG, 6 TOO MUCH; 8 bytes of the proof (0 but "
            + "with 2 to 4)");
        String[] texts = {"max 1;", "max 1;row a:1>=2;", "var x;max x;",
            "set S=1..12;set T=1..11;var x[S];max x[12];row r0:x[1]<=1;row r[i in T]:x[i+1]<=99999*x[i];",
            "var x whole;var y whole;max 0;row a:2*x-2*y=1;"};
        for (int end = 2; end <= 6; end++) {
            OptimumHouse house = Kit.house(texts[end - 2]);
            Kit.due("none", house.look(0), 0);
            Kit.due("no proof", house.look(8), 0);
            house.begin(0);
            Kit.due("it goes on", house.look(0), 1);
            Kit.due("no proof", house.look(8), 0);
            Kit.due("no byte", house.proof(0), NONE);
            for (int i = 0; i < 9 && house.look(0) == 1; i++) {
                house.work(500);
            }
            Kit.due("end", house.look(0), end);
            Kit.due("a proof", house.look(8) > 0, end <= 4);
            Kit.due("its first byte", house.proof(0) != NONE, end <= 4);
            Kit.due("work", house.work(1), 0);
            Kit.due("end still", house.look(0), end);
        }
    }

    private static void lookWithout() {
        Kit.says("10: (All but 9 are 0 without work.) 9 bytes on the tape");
        OptimumHouse[] houses = {new OptimumHouse(), Kit.house(PLAIN)};
        for (OptimumHouse house : houses) {
            house.feed(0, 0, 0, 0, 0);
            house.end(13);
            for (int what = 0; what <= 8; what++) {
                Kit.due("look " + what, house.look(what), 0);
            }
            Kit.due("look 9", house.look(9), 13);
        }
        OptimumHouse house = Kit.house(PLAIN);
        house.begin(0);
        house.feed(0, 0, 0, 0, 0);
        house.end(7);
        Kit.due("look 9", house.look(9), 7);
    }

    private static void lookWhat() {
        Kit.says("10: NONE for others");
        OptimumHouse house = new OptimumHouse();
        int[] bad = {LEAST, -2, -1, 10, 11, MOST};
        for (int round = 0; round < 4; round++) {
            for (int what : bad) {
                Kit.due("look " + what, house.look(what), NONE);
            }
            if (round == 0) {
                Kit.tell(house, PLAIN);
            } else if (round == 1) {
                house.begin(0);
            } else {
                house.work(500);
            }
        }
    }

    private static void lookLatest() {
        Kit.says("10: 1 PIVOTS, 2 NODES that were begun, 3 how often there was a new BEST, 4 cuts that were made, 5 rows of the NODE "
            + "that is worked, 6 how far it is from the root, 7 phase. Behind 2 and 3, 5 and 6 tell of the latest NODE");
        OptimumHouse house = Kit.house("var x whole;max x;row a:2*x<=5;row b:3*x>=2;");
        house.begin(0);
        looks(house, 1, 0, 1, 0, 0, 2, 0, 1);
        house.work(2);
        looks(house, 1, 2, 1, 0, 0, 2, 0, 2);
        house.work(1);
        looks(house, 1, 3, 2, 0, 0, 3, 1, 3);
        house.work(500);
        looks(house, 2, 4, 3, 1, 0, 3, 1, 3);
        house.begin(1);
        house.work(500);
        looks(house, 2, 4, 2, 1, 1, 3, 1, 3);
        house = Kit.house("var x whole;max x;row a:3*x<=2;row b:3*x>=1;");
        house.begin(0);
        house.work(500);
        Kit.due("infeasible", house.look(0), 3);
        Kit.due("rows of the latest", house.look(5), 3);
        Kit.due("how far", house.look(6), 1);
        house = Kit.house("max 1;");
        house.begin(0);
        house.work(1);
        looks(house, 2, 0, 1, 1, 0, 0, 0, 2);
    }

    private static void looks(OptimumHouse house, int... due) {
        for (int what = 0; what < due.length; what++) {
            Kit.due("look " + what, house.look(what), due[what]);
        }
    }

    private static void place() {
        Kit.says("11: The NUMBER of B(i) (i from 1 on), of N(j) (j from 1 on: -j is asked); NONE without, and for 0");
        OptimumHouse house = new OptimumHouse();
        int[] all = {LEAST, -14, -3, -2, -1, 0, 1, 2, 3, 4, 41, MOST};
        for (int i : all) {
            Kit.due("without a model", house.place(i), NONE);
        }
        Kit.tell(house, PLAIN);
        for (int i : all) {
            Kit.due("without work", house.place(i), NONE);
        }
        house.begin(0);
        int[] due = {NONE, NONE, NONE, 2, 1, NONE, 3, 4, 5, NONE, NONE, NONE};
        for (int i = 0; i < all.length; i++) {
            Kit.due("place " + all[i], house.place(all[i]), due[i]);
        }
        Kit.tell(house, "max 1;");
        house.begin(0);
        for (int i : all) {
            Kit.due("without rows and variables", house.place(i), NONE);
        }
    }

    private static void entry() {
        Kit.says("12: Byte k of T(i, j) as a number (i 0: of z; -1: of w; -2: D, j 0), with - ahead; NONE without");
        OptimumHouse house = new OptimumHouse();
        int[] odd = {LEAST, -3, -2, -1, 0, 1, 2, 3, 4, 5, MOST};
        entries(house, odd, new String[0][0]);
        Kit.tell(house, "var x;max 10-12*x;row a:x<=99999;row b:0*x>=-5;");
        entries(house, odd, new String[0][0]);
        house.begin(0);
        entries(house, odd, new String[][] {{"1"}, {}, {"10", "12"}, {"99999", "1"}, {"5", "0"}});
        Kit.tell(house, "var x;max x;row a:x>=12345;");
        house.begin(0);
        entries(house, odd, new String[][] {{"1"}, {"0", "0", "1"}, {"0", "-1", "0"}, {"-12345", "-1", "-1"}});
        house.work(500);
        Kit.due("a ray", house.look(0), 4);
        entries(house, odd, new String[][] {{"1"}, {}, {"12345", "-1"}, {"12345", "-1"}});
    }

    /** The rows D, w, z, 1 .. as they are due; all else is NONE. */
    private static void entries(OptimumHouse house, int[] odd, String[][] due) {
        for (int i : odd) {
            for (int j : odd) {
                boolean there = i >= -2 && i < due.length - 2 && j >= 0 && j < due[i + 2].length;
                String text = there ? due[i + 2][j] : "";
                for (int k : odd) {
                    int wanted = k >= 0 && k < text.length() ? text.charAt(k) : NONE;
                    Kit.due("entry " + i + ", " + j + ", " + k, house.entry(i, j, k), wanted);
                }
                Kit.due("entry " + i + ", " + j, Kit.entry(house, i, j), text);
            }
        }
    }

    private static void toldBest() {
        Kit.says("13: Byte k of a fraction that can't be made less, as a number, and if it isn't whole / and the lower part: what 0 the "
            + "VALUE of the BEST (turned back of min); j from 1 on variable j of its POINT. NONE without");
        OptimumHouse house = new OptimumHouse();
        int[] odd = {LEAST, -2, -1, 0, 1, 2, 3, MOST};
        for (int j : odd) {
            Kit.due("without a model", house.told(j, 0), NONE);
        }
        Kit.tell(house, "var x;var y;min 0-8*x-3*y;row a:6*x<=4;row b:y<=2;");
        for (int j : odd) {
            Kit.due("without work", house.told(j, 0), NONE);
        }
        house.begin(0);
        for (int j = 0; j <= 3; j++) {
            Kit.due("without a BEST", house.told(j, 0), NONE);
        }
        house.work(500);
        String[] due = {"-34/3", "2/3", "2", ""};
        for (int j = 0; j <= 3; j++) {
            Kit.due("told " + j, Kit.told(house, j), due[j]);
            for (int k : odd) {
                Kit.due("told " + j + ", " + k, house.told(j, k), k >= 0 && k < due[j].length() ? due[j].charAt(k) : NONE);
            }
        }
        Kit.due("told most", house.told(MOST, 0), NONE);
        Kit.due("told least", house.told(LEAST, 0), NONE);
        house = Kit.house("max 0;");
        house.begin(0);
        house.work(1);
        Kit.due("0", Kit.told(house, 0), "0");
        Kit.due("no variable", house.told(1, 0), NONE);
        Kit.due("no row", house.told(-1, 0), NONE);
    }

    private static void toldPrices() {
        Kit.says("13: -j the price T(z, place of n + j) / D of row j (that the NODE has) in the dictionary that is there (0 if n + j is "
            + "BASIC)");
        OptimumHouse house = Kit.house("var x whole;min 4-6*x;row a:4*x<=9;row b:x<=100;");
        house.begin(0);
        Kit.due("BASIC at first", Kit.told(house, -1), "0");
        Kit.due("BASIC at first", Kit.told(house, -2), "0");
        Kit.due("no row 3", house.told(-3, 0), NONE);
        house.work(1);
        Kit.due("T / D, not turned for min", Kit.told(house, -1), "3/2");
        Kit.due("BASIC", Kit.told(house, -2), "0");
        Kit.due("row 3, which the NODE has", Kit.told(house, -3), "0");
        Kit.due("no row 4", house.told(-4, 0), NONE);
        house.work(1);
        Kit.due("optimal", house.look(0), 2);
        Kit.due("no row 4", house.told(-4, 0), NONE);
        // Below 0 as long as the goal can rise; in PHASE 1, too.
        house = Kit.house("var x;max x;row a:x>=1;row b:x<=3;");
        house.begin(0);
        house.work(2);
        Kit.due("below 0", Kit.told(house, -1), "-1");
    }

    private static void proof() {
        Kit.says("14: Byte k of the proof, if the work has ended with 2, 3 or 4; NONE without");
        OptimumHouse house = new OptimumHouse();
        int[] bad = {LEAST, -1, 31, 30000, MOST};
        Kit.due("without a model", house.proof(0), NONE);
        Kit.tell(house, "min 7*6;");
        Kit.due("without work", house.proof(0), NONE);
        house.begin(0);
        Kit.due("before its end", house.proof(0), NONE);
        house.work(1);
        String due = "optimal 42 / 1 at / 1 bound 1 ;";
        Kit.due("bytes", house.look(8), due.length());
        for (int k = 0; k < due.length(); k++) {
            Kit.due("byte " + k, house.proof(k), due.charAt(k));
        }
        for (int k : bad) {
            Kit.due("byte " + k, house.proof(k), NONE);
        }
        house.begin(0);
        Kit.due("begun anew", house.proof(0), NONE);
    }

    private static void check() {
        Kit.says("15: The tape, which is empty then, is held against the model by the CHECKER: 0, or its FAULT; NONE without a model");
        OptimumHouse house = new OptimumHouse();
        Kit.due("without a model", house.check(), NONE);
        Kit.feed(house, "optimal 1 / 1 at 1 / 1 cut 2 1 : 1 ; bound 1 2 : 1 ;");
        Kit.due("without a model", house.check(), NONE);
        Kit.due("tape", house.look(9), 0);
        Kit.tell(house, WHOLE);
        Kit.due("an empty tape", house.check(), 1);
        Kit.due("its place", house.fault(1), 0);
        Kit.due("before any work", Kit.check(house, "optimal 1 / 1 at 1 / 1 cut 2 1 : 1 ; bound 1 2 : 1 ;"), 0);
        Kit.due("tape", house.look(9), 0);
        Kit.due("a fault", Kit.check(house, "optimal 1 / 1 at 1 / 1 bound 1 1 : 1 ;"), 4);
        Kit.due("tape", house.look(9), 0);
        Kit.due("a text of a model", Kit.check(house, WHOLE), 1);
        house.begin(0);
        house.work(1);
        String before = ReferenceWork.picture(house);
        Kit.due("while it goes on", Kit.check(house, "optimal 1 / 1 at 1 / 1 cut 2 1 : 1 ; bound 1 2 : 1 ;"), 0);
        Kit.due("the work stays", ReferenceWork.picture(house), before);
        Kit.due("the model is held, not the NODE", Kit.check(house, "optimal 1 / 1 at 1 / 1 bound 1 2 : 1 ;"), 4);
        Kit.due("a tell with a FAULT", Kit.tell(house, "max 1"), 1);
        Kit.due("leaves the model", Kit.check(house, "optimal 1 / 1 at 1 / 1 cut 2 1 : 1 ; bound 1 2 : 1 ;"), 0);
    }
}
