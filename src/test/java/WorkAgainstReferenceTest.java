import java.util.Random;

/** Promises 7 to 15: random models, pivot by pivot, against the document told with BigInteger. */
public final class WorkAgainstReferenceTest {
    private static final int[] ENDS = new int[7];

    private WorkAgainstReferenceTest() {
    }

    public static void main(String[] args) {
        int rounds = args.length > 0 ? Integer.parseInt(args[0]) : 400;
        long seed = args.length > 1 ? Long.parseLong(args[1]) : 1;
        for (int i = 0; i < rounds && !Kit.failed(); i++) {
            one(Kit.random(seed, i), "seed " + seed + " round " + i);
        }
        for (int end = 2; end < 7; end++) {
            System.out.println("  end " + end + ": " + ENDS[end]);
        }
        Kit.done();
    }

    private static void one(Random random, String what) {
        ReferenceWork.Model model = Models.random(random);
        String text = Models.text(model, random);
        if (text.length() > 2000) {
            return;
        }
        OptimumHouse house = new OptimumHouse();
        Kit.due(what + " tell " + text, Kit.tell(house, text), 0);
        compareModel(house, model, what);
        int cuts = random.nextInt(3) == 0 ? 0 : random.nextInt(21);
        ReferenceWork reference = new ReferenceWork(model, cuts);
        reference.run();
        Kit.due(what, house.begin(cuts), true);
        Kit.due(what + " at first", ReferenceWork.picture(house), reference.atFirst);
        stepThrough(house, reference, random, what + " " + text + " cuts " + cuts);
        ENDS[reference.status]++;
        Kit.due(what + " proof", Kit.proof(house), reference.proof);
        if (!reference.proof.isEmpty()) {
            Kit.due(what + " check", Kit.checking(house, reference.proof), "0");
            mutate(house, model, reference.proof, random, what);
        }
    }

    private static void compareModel(OptimumHouse house, ReferenceWork.Model model, String what) {
        Kit.due(what + " n", house.size(0), model.n);
        Kit.due(what + " m", house.size(1), model.rows.size());
        Kit.due(what + " max", house.size(3), model.max ? 1 : 0);
        for (int k = 0; k <= model.rows.size(); k++) {
            for (int j = 0; j <= model.n; j++) {
                long wanted = k == 0 ? model.goal[j] : model.rows.get(k - 1)[j];
                Kit.due(what + " coefficient " + k + " " + j, house.coefficient(k, j), wanted);
            }
        }
    }

    private static void stepThrough(OptimumHouse house, ReferenceWork reference, Random random, String what) {
        int last = reference.pictures.size() - 1;
        int at = 0;
        int most = last > 300 ? 60 : 1;
        for (int i = 0; i < 100000 && !Kit.failed(); i++) {
            int asked = 1 + random.nextInt(most);
            int done = house.work(asked);
            int pivotsInAll = reference.pivots;
            int due = Math.min(asked, pivotsInAll - at);
            Kit.due(what + " work", done, due);
            at += done;
            boolean over = done < asked;
            String wanted = reference.pictures.get(over ? last : at);
            Kit.due(what + " after pivot " + at, ReferenceWork.picture(house), wanted);
            if (house.look(0) != 1) {
                Kit.due(what + " work behind the end", house.work(500), 0);
                Kit.due(what + " at the end", ReferenceWork.picture(house), reference.pictures.get(last));
                return;
            }
        }
    }

    /** Changed proofs must be judged as the reference judges them. */
    private static void mutate(OptimumHouse house, ReferenceWork.Model model, String proof, Random random,
        String what) {
        String[] parts = {"branch", "cut", "bound", "farkas", "at", "along", ";", ":", "/", "0", "1", "2", "-1",
            "-0", "00", "optimal", "infeasible", "unbounded", "x", "999999999999999999999", ""};
        int rounds = proof.length() > 3000 ? 3 : 12;
        for (int i = 0; i < rounds; i++) {
            String[] tokens = proof.split(" ");
            int changes = 1 + random.nextInt(2);
            for (int c = 0; c < changes; c++) {
                int at = random.nextInt(tokens.length);
                boolean number = tokens[at].matches("-?[0-9]+");
                if (number && random.nextInt(4) > 0) {
                    java.math.BigInteger value = new java.math.BigInteger(tokens[at]);
                    tokens[at] = value.add(java.math.BigInteger.valueOf(random.nextInt(5) - 2)).toString();
                } else {
                    tokens[at] = parts[random.nextInt(parts.length)];
                }
            }
            String changed = String.join(random.nextBoolean() ? " " : "\n ", tokens);
            if (changed.length() > 30000) {
                continue;
            }
            Kit.due(what + " check of " + changed, Kit.checking(house, changed),
                ReferenceCheck.check(model, changed));
        }
    }
}
