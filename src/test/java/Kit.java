import java.nio.charset.StandardCharsets;
import java.util.HashSet;
import java.util.Random;
import java.util.Set;

/** What all tests use: texts on and off the tape, and the count of answers that are not due. */
final class Kit {
    private static int failures;
    private static int asked;
    private static final Set<String> SENTENCES = new HashSet<>();
    private static String sentence = "";

    private Kit() {
    }

    static void due(String what, long got, long wanted) {
        asked++;
        if (got != wanted) {
            fail(what + " answered " + got + ", due is " + wanted);
        }
    }

    static void due(String what, boolean got, boolean wanted) {
        due(what, got ? 1 : 0, wanted ? 1 : 0);
    }

    static void due(String what, String got, String wanted) {
        asked++;
        if (!wanted.equals(got)) {
            fail(what + " answered\n    " + got + "\n  due is\n    " + wanted);
        }
    }

    /** The sentence of the document that the answers from here on are held against. */
    static void says(String words) {
        SENTENCES.add(words);
        sentence = words;
    }

    static void fail(String message) {
        failures++;
        if (failures <= 20) {
            if (!sentence.isEmpty()) {
                System.out.println("the document says: " + sentence);
            }
            System.out.println("  " + (message.length() > 1500 ? message.substring(0, 1500) + " .." : message));
        }
    }

    /** Seeds are spread out, as Random gives near seeds like numbers. */
    static Random random(long seed, int round) {
        return new Random((seed * 1000003 + round) * 0x9E3779B97F4A7C15L);
    }

    static boolean failed() {
        return failures > 0;
    }

    static void done() {
        String of = SENTENCES.isEmpty() ? "" : " of " + SENTENCES.size() + " sentences";
        System.out.println(asked + " answers" + of + " asked, " + failures + " not as due");
        System.exit(failures > 0 || asked == 0 ? 1 : 0);
    }

    static void feed(OptimumHouse house, String text) {
        byte[] bytes = text.getBytes(StandardCharsets.ISO_8859_1);
        int before = house.look(9);
        for (int i = 0; i < bytes.length; i += 20) {
            int[] five = new int[5];
            for (int k = 0; k < 20; k++) {
                int value = i + k < bytes.length ? bytes[i + k] & 255 : 0;
                five[k / 4] = five[k / 4] << 8 | value;
            }
            if (house.feed(five[0], five[1], five[2], five[3], five[4]) == OptimumHouse.NONE) {
                fail("feed refused at " + i + " of " + bytes.length);
                return;
            }
        }
        if (!house.end(before + bytes.length)) {
            fail("end refused " + (before + bytes.length));
        }
    }

    static int tell(OptimumHouse house, String text) {
        feed(house, text);
        return house.tell();
    }

    static int check(OptimumHouse house, String text) {
        feed(house, text);
        return house.check();
    }

    /** A new house that knows the model. */
    static OptimumHouse house(String text) {
        OptimumHouse house = new OptimumHouse();
        due("tell of " + text, tell(house, text), 0);
        return house;
    }

    /** The FAULT and PLACE of a tell on a new house, as "2 at 7", or "0". */
    static String telling(String text) {
        return telling(new OptimumHouse(), text);
    }

    static String telling(OptimumHouse house, String text) {
        return found(house, tell(house, text));
    }

    static String checking(OptimumHouse house, String text) {
        return found(house, check(house, text));
    }

    /** A text without FAULT. */
    static void fine(String text) {
        due("tell of " + text, telling(text), "0");
    }

    /** A text with a FAULT; there is a ^ ahead of the token where it is. */
    static void faulty(int kind, String text) {
        due("tell of " + unmarked(text), telling(unmarked(text)), kind + " at " + text.indexOf('^'));
    }

    /** A proof without FAULT. */
    static void holds(OptimumHouse house, String text) {
        due("check of " + text, checking(house, text), "0");
    }

    /** A proof with a FAULT; there is a ^ ahead of the token where it is. */
    static void breaks(OptimumHouse house, int kind, String text) {
        due("check of " + unmarked(text), checking(house, unmarked(text)), kind + " at " + text.indexOf('^'));
    }

    private static String unmarked(String text) {
        int place = text.indexOf('^');
        return text.substring(0, place) + text.substring(place + 1);
    }

    private static String found(OptimumHouse house, int answer) {
        due("fault(0)", house.fault(0), answer);
        if (answer == 0) {
            due("fault(1)", house.fault(1), OptimumHouse.NONE);
            return "0";
        }
        return answer + " at " + house.fault(1);
    }

    /** Works to the end; answers how it ended. */
    static int solve(OptimumHouse house, int cuts) {
        due("begin", house.begin(cuts), true);
        for (int i = 0; i < 100000 && house.look(0) == 1; i++) {
            house.work(500);
        }
        return house.look(0);
    }

    static String proof(OptimumHouse house) {
        StringBuilder text = new StringBuilder();
        for (int k = 0; house.proof(k) != OptimumHouse.NONE; k++) {
            text.append((char) house.proof(k));
        }
        return text.toString();
    }

    static String entry(OptimumHouse house, int i, int j) {
        StringBuilder text = new StringBuilder();
        for (int k = 0; house.entry(i, j, k) != OptimumHouse.NONE; k++) {
            text.append((char) house.entry(i, j, k));
        }
        return text.toString();
    }

    static String told(OptimumHouse house, int j) {
        StringBuilder text = new StringBuilder();
        for (int k = 0; house.told(j, k) != OptimumHouse.NONE; k++) {
            text.append((char) house.told(j, k));
        }
        return text.toString();
    }
}
