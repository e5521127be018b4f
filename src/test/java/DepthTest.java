import java.io.PrintWriter;
import java.io.StringWriter;
import java.nio.file.Path;
import java.util.ArrayList;
import java.util.HashMap;
import java.util.HashSet;
import java.util.List;
import java.util.Map;
import java.util.Set;
import java.util.TreeSet;
import java.util.regex.Matcher;
import java.util.regex.Pattern;
import java.util.spi.ToolProvider;

/** Rules 8 and 11 of LANGUAGE.md: which methods call themselves, and how deep all other calls go. */
public final class DepthTest {
    private static final Pattern HEAD = Pattern.compile("^  (?:[\\w.$\\[\\]]+ )*([\\w.$]+)\\(.*\\);$");
    private static final Pattern CALL = Pattern.compile("// Method (?:([\\w/$]+)\\.)?\"?([\\w<>]+)\"?:");
    private static final Map<String, Set<String>> CALLS = new HashMap<>();
    private static final Map<String, Set<String>> REACHED = new HashMap<>();

    private DepthTest() {
    }

    public static void main(String[] args) throws Exception {
        readCalls("OptimumHouse");
        for (Class<?> inside : OptimumHouse.class.getDeclaredClasses()) {
            readCalls(inside.getName());
        }
        Kit.due("methods are found", CALLS.size() > 200, true);
        for (String method : CALLS.keySet()) {
            REACHED.put(method, reached(method));
        }
        Kit.due("the methods that call themselves", recursive(), "OptimumHouse$Syntax.expression "
            + "OptimumHouse$Syntax.factor OptimumHouse$Syntax.term OptimumHouse$Teller.expression "
            + "OptimumHouse$Teller.factor OptimumHouse$Teller.inner OptimumHouse$Teller.negated "
            + "OptimumHouse$Teller.summed OptimumHouse$Teller.term");
        for (String method : CALLS.keySet()) {
            List<String> deepest = deepest(method);
            Kit.due("calls go at most eight deep: " + deepest, deepest.size() <= 8, true);
        }
        Kit.done();
    }

    private static void readCalls(String name) throws Exception {
        Path place = Path.of(OptimumHouse.class.getProtectionDomain().getCodeSource().getLocation().toURI());
        StringWriter shown = new StringWriter();
        PrintWriter out = new PrintWriter(shown, true);
        ToolProvider.findFirst("javap").orElseThrow().run(out, out, "-p", "-c", "-cp", place.toString(), name);
        String caller = "";
        for (String line : shown.toString().split("\n")) {
            Matcher head = HEAD.matcher(line);
            Matcher call = CALL.matcher(line);
            if (head.find()) {
                caller = name + "." + (head.group(1).equals(name) ? "<init>" : head.group(1));
                CALLS.putIfAbsent(caller, new HashSet<>());
            } else if (call.find()) {
                String owner = call.group(1) == null ? name : call.group(1);
                if (owner.startsWith("OptimumHouse")) {
                    CALLS.get(caller).add(owner + "." + call.group(2));
                }
            }
        }
    }

    private static Set<String> reached(String method) {
        Set<String> found = new HashSet<>();
        List<String> ahead = new ArrayList<>(List.of(method));
        while (!ahead.isEmpty()) {
            for (String called : CALLS.getOrDefault(ahead.remove(ahead.size() - 1), Set.of())) {
                if (found.add(called)) {
                    ahead.add(called);
                }
            }
        }
        return found;
    }

    private static String recursive() {
        Set<String> found = new TreeSet<>();
        for (String method : CALLS.keySet()) {
            if (REACHED.get(method).contains(method)) {
                found.add(method);
            }
        }
        return String.join(" ", found);
    }

    private static boolean isOneGroup(String a, String b) {
        return a.equals(b) || REACHED.get(a).contains(b) && REACHED.get(b).contains(a);
    }

    /** The longest chain of calls; methods that call one another count as one. */
    private static List<String> deepest(String method) {
        List<String> longest = List.of();
        for (String member : CALLS.keySet()) {
            if (isOneGroup(method, member)) {
                for (String called : CALLS.get(member)) {
                    List<String> chain = isOneGroup(member, called) ? List.of() : deepest(called);
                    longest = chain.size() > longest.size() ? chain : longest;
                }
            }
        }
        List<String> whole = new ArrayList<>(List.of(method));
        whole.addAll(longest);
        return whole;
    }
}
