import java.util.Random;

/** No call ever throws, whatever the arguments and the state; the same calls give the same answers. */
public final class RandomCallsTest {
    private static final String[] BITS = {"max ", "min ", "var x whole;", "var y;", "x", "+", "2*x", ";", "row a:x<=3;",
        "row b:2*x+3*y>=7;", "optimal 1 / 1 at ", "infeasible ", "bound 1 ;", "farkas 1 1 : 1 ;", "cut 1 1 : 1 ; ",
        "branch 1 1 ", "/ 1 ", "3 ", "unbounded at ", "along ", "?", "\u00ff", "set S=1..3;", "sum i in S(i)"};
    private static final String[] MODELS = {"var x whole;var y whole;max 5*x+4*y;row a:6*x+4*y<=24;row b:x+2*y<=6;",
        "var x;var y;min x+y;row a:x+2*y>=3;row b:3*x+y>=4;", "var x whole;var y whole;max 0;row a:2*x-2*y=1;",
        "max 1;", "set S=1..6;var x[S]whole;max sum i in S(i*x[i]);row a:sum i in S((7-i)*x[i]+3*x[i])<=101;"
        + "row b[i in S]:2*x[i]<=7;", "var x;max x;", "var x whole;max x;row a:x<=2;row b:x>=3;"};

    private RandomCallsTest() {
    }

    public static void main(String[] args) {
        int runs = args.length > 0 ? Integer.parseInt(args[0]) : 400;
        for (int run = 0; run < runs; run++) {
            long first = run(run);
            Kit.due("run " + run + " again", run(run), first);
        }
        Kit.done();
    }

    private static long run(int number) {
        Random random = Kit.random(9, number);
        OptimumHouse house = new OptimumHouse();
        long all = 0;
        for (int call = 0; call < 512; call++) {
            all = all * 31 + call(house, random);
        }
        return all;
    }

    private static int odd(Random random) {
        switch (random.nextInt(8)) {
            case 0:
                return random.nextInt();
            case 1:
                return Integer.MIN_VALUE;
            case 2:
                return Integer.MAX_VALUE;
            case 3:
                return random.nextInt(50) - 5;
            default:
                return random.nextInt(9) - 3;
        }
    }

    private static long call(OptimumHouse house, Random random) {
        switch (random.nextInt(20)) {
            case 0:
                return house.feed(random.nextInt(), odd(random), odd(random), 0x20202020, random.nextInt());
            case 1:
                return house.end(odd(random)) ? 1 : 0;
            case 2:
                return house.tell();
            case 3:
                return house.fault(odd(random));
            case 4:
                return house.size(odd(random));
            case 5:
                return house.coefficient(odd(random), odd(random));
            case 6:
                return house.begin(odd(random)) ? 1 : 0;
            case 7:
                return house.work(odd(random));
            case 8:
                return house.look(odd(random));
            case 9:
                return house.place(odd(random));
            case 10:
                return house.entry(odd(random), odd(random), odd(random));
            case 11:
                return house.told(odd(random), odd(random));
            case 12:
                return house.proof(odd(random));
            case 13:
                return house.check();
            case 14:
                return text(house, random, MODELS[random.nextInt(MODELS.length)]) + house.tell();
            case 15:
                return house.begin(random.nextInt(21)) ? 1 : 0;
            case 16:
                return house.work(1 + random.nextInt(20));
            case 17:
                return proofBack(house);
            default:
                return text(house, random, "");
        }
    }

    private static long text(OptimumHouse house, Random random, String start) {
        StringBuilder text = new StringBuilder(start);
        for (int i = random.nextInt(start.isEmpty() ? 6 : 2); i > 0; i--) {
            text.append(BITS[random.nextInt(BITS.length)]);
        }
        if (!start.isEmpty()) {
            house.end(0);
        }
        if (house.look(9) + text.length() + 20 < 30000) {
            Kit.feed(house, text.toString());
        }
        return house.look(9);
    }

    private static long proofBack(OptimumHouse house) {
        String proof = Kit.proof(house);
        if (proof.isEmpty() || house.look(9) + proof.length() + 20 > 30000) {
            return 0;
        }
        house.end(0);
        int answer = Kit.check(house, proof);
        Kit.due("check of the house's own proof", answer, 0);
        return answer;
    }
}
