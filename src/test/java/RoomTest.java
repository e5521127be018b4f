import java.lang.management.ManagementFactory;
import java.lang.reflect.Array;
import java.lang.reflect.Field;
import java.lang.reflect.Modifier;
import java.nio.charset.StandardCharsets;
import java.util.ArrayDeque;
import java.util.Collections;
import java.util.Deque;
import java.util.IdentityHashMap;
import java.util.Set;

/** LANGUAGE.md, rule 12: what a run makes is made by the constructor, is small, and is used again. */
public final class RoomTest {
    private static final int ROOM_OBJECTS = 600000;
    private static final int ROOM_ELEMENTS = 7300000;
    private static final int MOST_CALLS = 512;
    /** Texts that need the most of each row: tape, tokens, names, rows, NODES, TREES, great numbers. */
    private static final String[] MODELS = {
        "set S=1..8;par c[S]=4,0,5,7,3,1,3,5;par e[S]=4,6,6,8,3,6,2,5;var x[S]whole;var y;var u;"
            + "max sum i in S(c[i]*x[i]);row b:sum i in S(e[i]*x[i])=41;",
        "var x whole;var y whole;max 0;row a:2*x-2*y=1;",
        "set S=1..12;set T=1..11;var x[S];max x[12];row r0:x[1]<=1;row r[i in T]:x[i+1]<=99999*x[i];",
        "var x whole;var y whole;max 4*x+2*y;row a:2*x+18*y<=193;row b:8*x+3*y<=120;",
        "set S=1..12;max sum i in S(sum j in S(sum k in S(sum l in S(0))));",
        "max " + "-".repeat(29) + "1;", "max x;", "max 1", ";".repeat(2000), "?", " ".repeat(2001), "var x;max x;"};
    private static final String[] PROOFS = {";".repeat(30000), "infeasible " + "cut 1;".repeat(4000), "optimal",
        "optimal 0/1at 0 0/1" + "cut 1;".repeat(39) + "bound 1;", "unbounded at 0/1along 1/1",
        "infeasible farkas 1 " + "1:1 ".repeat(7000) + ";"};

    private RoomTest() {
    }

    public static void main(String[] args) {
        int[][][] models = packed(MODELS);
        int[][][] proofs = packed(PROOFS);
        // The first run loads what the machine itself needs.
        run(new OptimumHouse(), models, proofs);
        OptimumHouse house = new OptimumHouse();
        long[] made = count(house);
        System.out.println("  made by the constructor: " + made[0] + " objects, " + made[1] + " fields and elements");
        Kit.due("objects", made[0] < ROOM_OBJECTS / MOST_CALLS, true);
        Kit.due("fields and elements", made[1] < ROOM_ELEMENTS / 20, true);
        com.sun.management.ThreadMXBean bean = (com.sun.management.ThreadMXBean) ManagementFactory.getThreadMXBean();
        long id = Thread.currentThread().getId();
        // The machine itself may make something now and then; the calls would make it each time.
        long least = Long.MAX_VALUE;
        long calls = 0;
        for (int round = 0; round < 20 && least > 0; round++) {
            house = new OptimumHouse();
            long before = bean.getThreadAllocatedBytes(id);
            calls = run(house, models, proofs);
            least = Math.min(least, bean.getThreadAllocatedBytes(id) - before);
        }
        System.out.println("  made by " + calls + " calls: " + least + " bytes");
        Kit.due("made by calls", least, 0);
        long[] then = count(house);
        Kit.due("no more objects after all calls", then[0] <= made[0], true);
        Kit.due("no more fields and elements after all calls", then[1] <= made[1], true);
        Kit.done();
    }

    /** Each text as the numbers of its feeds; the last row is the text's length. */
    private static int[][][] packed(String[] texts) {
        int[][][] all = new int[texts.length][][];
        for (int t = 0; t < texts.length; t++) {
            byte[] bytes = texts[t].getBytes(StandardCharsets.ISO_8859_1);
            int feeds = (bytes.length + 19) / 20;
            all[t] = new int[feeds + 1][5];
            for (int i = 0; i < bytes.length; i++) {
                all[t][i / 20][i % 20 / 4] |= (bytes[i] & 255) << 24 - 8 * (i % 4);
            }
            all[t][feeds][0] = bytes.length;
        }
        return all;
    }

    /** All methods, many times over; answers how many calls there were. */
    private static long run(OptimumHouse house, int[][][] models, int[][][] proofs) {
        long calls = 0;
        for (int round = 0; round < 2; round++) {
            for (int[][] model : models) {
                calls += feed(house, model);
                house.tell();
                for (int[][] proof : proofs) {
                    calls += feed(house, proof);
                    house.check();
                }
                for (int cuts = -1; cuts <= 21; cuts += 11) {
                    calls += work(house, cuts);
                }
                calls += back(house);
            }
        }
        return calls;
    }

    private static int feed(OptimumHouse house, int[][] text) {
        house.end(0);
        for (int i = 0; i < text.length - 1; i++) {
            house.feed(text[i][0], text[i][1], text[i][2], text[i][3], text[i][4]);
        }
        house.feed(0, 0, 0, 0, 0);
        house.end(text[text.length - 1][0]);
        return text.length + 3;
    }

    private static int work(OptimumHouse house, int cuts) {
        int calls = 1;
        house.begin(cuts);
        for (int i = 0; i < 20; i++) {
            house.work(i < 5 ? 1 : 500);
            for (int a = -3; a <= 14; a++) {
                house.fault(a);
                house.size(a);
                house.look(a);
                house.place(a);
                house.coefficient(a, i);
                house.entry(a, i, 0);
                house.told(a, 0);
                house.proof(a);
                calls += 8;
            }
            calls++;
        }
        return calls;
    }

    /** Feeds the house its own proof. */
    private static int back(OptimumHouse house) {
        int length = house.look(8);
        house.end(0);
        for (int k = 0; k < length; k += 20) {
            house.feed(four(house, k), four(house, k + 4), four(house, k + 8), four(house, k + 12), four(house, k + 16));
        }
        house.end(length);
        house.check();
        return 3 + 21 * length / 20;
    }

    private static int four(OptimumHouse house, int k) {
        return house.proof(k) << 24 | (house.proof(k + 1) & 255) << 16 | (house.proof(k + 2) & 255) << 8
            | house.proof(k + 3) & 255;
    }

    /** Objects and arrays that the house holds, and their fields and elements. */
    private static long[] count(Object root) {
        Set<Object> seen = Collections.newSetFromMap(new IdentityHashMap<>());
        Deque<Object> open = new ArrayDeque<>();
        open.add(root);
        seen.add(root);
        long elements = 0;
        while (!open.isEmpty()) {
            Object object = open.remove();
            if (object.getClass().isArray()) {
                elements += Array.getLength(object);
                if (object instanceof Object[] parts) {
                    for (Object part : parts) {
                        if (part != null && seen.add(part)) {
                            open.add(part);
                        }
                    }
                }
                continue;
            }
            for (Field field : object.getClass().getDeclaredFields()) {
                if (Modifier.isStatic(field.getModifiers())) {
                    continue;
                }
                elements++;
                Object part = value(field, object);
                if (!field.getType().isPrimitive() && part != null && seen.add(part)) {
                    open.add(part);
                }
            }
        }
        return new long[] {seen.size(), elements};
    }

    private static Object value(Field field, Object object) {
        try {
            field.setAccessible(true);
            return field.get(object);
        } catch (IllegalAccessException e) {
            Kit.fail("can't look at " + field);
            return null;
        }
    }
}
