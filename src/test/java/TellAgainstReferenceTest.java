import java.util.ArrayList;
import java.util.List;
import java.util.Random;

/** Promises 4 to 7: random texts, many of them with faults, against a second reading of the document. */
public final class TellAgainstReferenceTest {
    private static final int[] FAULTS = new int[8];
    private static final String[] PARTS = {"=", "..", ";", ",", "[", "]", "(", ")", "+", "-", "*", ":", "<=", ">=",
        "max", "min", "set", "par", "var", "whole", "row", "sum", "in", "x", "y", "S", "T", "p", "q", "i", "j", "0",
        "1", "2", "99999", "100000", "12345", "abcdefgh", "abcdefghi", "1a", ".", "<", "?", "R0", "\n", "-"};

    private TellAgainstReferenceTest() {
    }

    public static void main(String[] args) {
        int rounds = args.length > 0 ? Integer.parseInt(args[0]) : 20000;
        long seed = args.length > 1 ? Long.parseLong(args[1]) : 1;
        for (int i = 0; i < rounds && !Kit.failed(); i++) {
            Random random = Kit.random(seed, i);
            List<String> tokens = new TellAgainstReferenceTest.Writer(random).program();
            int changes = Math.max(0, random.nextInt(5) - 2);
            for (int c = 0; c < changes; c++) {
                change(tokens, random);
            }
            compare(String.join(random.nextInt(4) == 0 ? "" : " ", tokens));
        }
        for (int kind = 0; kind < 8; kind++) {
            System.out.println("  fault " + kind + ": " + FAULTS[kind]);
        }
        Kit.done();
    }

    private static void change(List<String> tokens, Random random) {
        int at = random.nextInt(tokens.size());
        switch (random.nextInt(4)) {
            case 0:
                tokens.remove(at);
                break;
            case 1:
                tokens.add(at, PARTS[random.nextInt(PARTS.length)]);
                break;
            case 2:
                tokens.set(at, tokens.get(random.nextInt(tokens.size())));
                break;
            default:
                tokens.set(at, PARTS[random.nextInt(PARTS.length)]);
                break;
        }
    }

    private static void compare(String text) {
        OptimumHouse house = new OptimumHouse();
        int answer = Kit.tell(house, text);
        String found = answer == 0 ? "0" : answer + " at " + house.fault(1);
        String wanted = ReferenceTell.tell(text);
        FAULTS[Integer.parseInt(wanted.substring(0, 1))]++;
        Kit.due("tell of " + text, found, wanted);
        if (!wanted.equals("0")) {
            return;
        }
        ReferenceWork.Model model = ReferenceTell.model(text);
        Kit.due("n of " + text, house.size(0), model.n);
        Kit.due("m of " + text, house.size(1), model.rows.size());
        Kit.due("max of " + text, house.size(3), model.max ? 1 : 0);
        int wholes = 0;
        for (boolean whole : model.whole) {
            wholes += whole ? 1 : 0;
        }
        Kit.due("wholes of " + text, house.size(2), wholes);
        for (int j = 0; j <= model.n; j++) {
            Kit.due("goal " + j + " of " + text, house.coefficient(0, j), model.goal[j]);
            for (int k = 1; k <= model.rows.size(); k++) {
                Kit.due("row " + k + ", " + j + " of " + text, house.coefficient(k, j), model.rows.get(k - 1)[j]);
            }
        }
    }

    /** Writes programs that are mostly right. */
    private static final class Writer {
        private final Random random;
        private final List<String> out = new ArrayList<>();
        private final List<String> sets = new ArrayList<>();
        private final List<String> things = new ArrayList<>();
        private final List<Integer> indexes = new ArrayList<>();
        private final List<String> inSight = new ArrayList<>();
        private final int size;

        Writer(Random random) {
            this.random = random;
            size = random.nextInt(3) == 0 ? 99999 : 9;
        }

        private void put(String text) {
            for (String token : text.split(" ")) {
                out.add(token);
            }
        }

        List<String> program() {
            int many = random.nextInt(20) == 0 ? 9 : 1 + random.nextInt(2);
            for (int i = 0; i < many; i++) {
                int low = random.nextInt(random.nextInt(5) == 0 ? 14 : 3);
                put("set S" + i + " = " + low + " .. " + (low + random.nextInt(random.nextInt(9) == 0 ? 13 : 4)) + " ;");
                sets.add("S" + i);
            }
            many = random.nextInt(30) == 0 ? 13 : 1 + random.nextInt(3);
            for (int i = 0; i < many; i++) {
                declare("par", "p" + i);
            }
            many = random.nextInt(30) == 0 ? 13 : 1 + random.nextInt(3);
            for (int i = 0; i < many; i++) {
                declare("var", "x" + i);
            }
            put(random.nextBoolean() ? "max" : "min");
            expression(0);
            put(";");
            many = random.nextInt(4);
            for (int i = 0; i < many; i++) {
                row(i);
            }
            return out;
        }

        private int setSize(String name) {
            int at = out.indexOf(name);
            return Integer.parseInt(out.get(at + 4)) - Integer.parseInt(out.get(at + 2)) + 1;
        }

        private void declare(String sort, String name) {
            put(sort + " " + name);
            int many = random.nextInt(3);
            int asked = 1;
            if (many > 0) {
                String first = sets.get(random.nextInt(sets.size()));
                asked = setSize(first);
                put("[ " + first);
                if (many > 1) {
                    String second = sets.get(random.nextInt(sets.size()));
                    asked *= setSize(second);
                    put(", " + second);
                }
                put("]");
            }
            things.add(name);
            indexes.add(many);
            if (sort.equals("var")) {
                put(random.nextBoolean() ? "whole ;" : ";");
                return;
            }
            put("=");
            asked += random.nextInt(30) == 0 ? 1 : 0;
            for (int i = 0; i < asked; i++) {
                put((i > 0 ? ", " : "") + (random.nextBoolean() ? "- " : "") + random.nextInt(size + 1));
            }
            put(";");
        }

        private void row(int number) {
            put("row R" + number);
            boolean index = random.nextBoolean();
            if (index) {
                String name = "i" + inSight.size();
                put("[ " + name + " in " + sets.get(random.nextInt(sets.size())) + " ]");
                inSight.add(name);
            }
            put(":");
            expression(0);
            put(random.nextInt(3) == 0 ? "<=" : random.nextBoolean() ? ">=" : "=");
            expression(0);
            put(";");
            if (index) {
                inSight.remove(inSight.size() - 1);
            }
        }

        private void expression(int depth) {
            term(depth);
            while (random.nextInt(3) == 0) {
                put(random.nextBoolean() ? "+" : "-");
                term(depth);
            }
        }

        private void term(int depth) {
            factor(depth);
            while (random.nextInt(4) == 0) {
                put("*");
                factor(depth);
            }
        }

        private void factor(int depth) {
            int kind = random.nextInt(depth > 4 ? 4 : 8);
            if (kind == 0) {
                put(String.valueOf(random.nextInt(size + 1)));
            } else if (kind == 1 && !inSight.isEmpty()) {
                put(inSight.get(random.nextInt(inSight.size())));
            } else if (kind < 4) {
                named();
            } else if (kind == 4) {
                put("-");
                factor(depth + 1);
            } else if (kind == 5) {
                put("(");
                expression(depth + 1);
                put(")");
            } else {
                String name = "i" + inSight.size();
                put("sum " + name + " in " + sets.get(random.nextInt(sets.size())) + " (");
                inSight.add(name);
                expression(depth + 1);
                inSight.remove(inSight.size() - 1);
                put(")");
            }
        }

        private void named() {
            int which = random.nextInt(things.size());
            put(things.get(which));
            int many = indexes.get(which);
            if (random.nextInt(60) == 0) {
                many = random.nextInt(3);
            }
            if (many > 0) {
                put("[");
                for (int i = 0; i < many; i++) {
                    put(i > 0 ? ", " + item() : item());
                }
                put("]");
            }
        }

        private String item() {
            if (inSight.isEmpty() || random.nextInt(4) == 0) {
                return String.valueOf(random.nextInt(4));
            }
            String name = inSight.get(random.nextInt(inSight.size()));
            return random.nextInt(4) > 0 ? name : name + (random.nextBoolean() ? " + " : " - ") + random.nextInt(3);
        }
    }
}
