import java.lang.reflect.Constructor;
import java.lang.reflect.Field;
import java.lang.reflect.Method;
import java.lang.reflect.Modifier;
import java.nio.file.Files;
import java.nio.file.Path;
import java.util.ArrayList;
import java.util.Collections;
import java.util.List;
import java.util.regex.Pattern;

/** The document's face, and the rules of LANGUAGE.md that can be read off the source. */
public final class LanguageTest {
    private LanguageTest() {
    }

    public static void main(String[] args) throws Exception {
        face();
        insides();
        source();
        Kit.done();
    }

    private static void face() {
        Class<OptimumHouse> c = OptimumHouse.class;
        Kit.due("public final", Modifier.isPublic(c.getModifiers()) && Modifier.isFinal(c.getModifiers()), true);
        List<String> found = new ArrayList<>();
        for (Constructor<?> constructor : c.getDeclaredConstructors()) {
            found.add(constructor.toString());
        }
        for (Method method : c.getDeclaredMethods()) {
            if (!Modifier.isPrivate(method.getModifiers())) {
                found.add(method.toString());
            }
        }
        for (Field field : c.getDeclaredFields()) {
            if (!Modifier.isPrivate(field.getModifiers())) {
                found.add(field.toString());
            }
        }
        Collections.sort(found);
        Kit.due("face", String.join("\n", found), String.join("\n",
            "public OptimumHouse()",
            "public boolean OptimumHouse.begin(int)",
            "public boolean OptimumHouse.end(int)",
            "public int OptimumHouse.check()",
            "public int OptimumHouse.entry(int,int,int)",
            "public int OptimumHouse.fault(int)",
            "public int OptimumHouse.feed(int,int,int,int,int)",
            "public int OptimumHouse.look(int)",
            "public int OptimumHouse.place(int)",
            "public int OptimumHouse.proof(int)",
            "public int OptimumHouse.size(int)",
            "public int OptimumHouse.tell()",
            "public int OptimumHouse.told(int,int)",
            "public int OptimumHouse.work(int)",
            "public long OptimumHouse.coefficient(int,int)",
            "public static final int OptimumHouse.NONE"));
    }

    private static void insides() {
        Class<?>[] inside = OptimumHouse.class.getDeclaredClasses();
        Kit.due("at most twelve classes", inside.length + 1 <= 12, true);
        List<String> face = new ArrayList<>();
        for (Method method : OptimumHouse.class.getDeclaredMethods()) {
            face.add(method.getName());
        }
        for (Class<?> c : inside) {
            Kit.due(c + " is static", Modifier.isStatic(c.getModifiers()), true);
            int fields = 0;
            for (Field field : c.getDeclaredFields()) {
                boolean constant = Modifier.isStatic(field.getModifiers());
                fields += constant ? 0 : 1;
                Kit.due(field + " is final if static", !constant || Modifier.isFinal(field.getModifiers()), true);
            }
            Kit.due(c + " has at most twenty fields", fields <= 20, true);
            for (Method method : c.getDeclaredMethods()) {
                Kit.due(method + " at most seven", method.getParameterCount() <= 7, true);
                Kit.due(method + " named like the face", face.contains(method.getName()), false);
            }
        }
    }

    private static void source() throws Exception {
        String text = Files.readString(Path.of("src/main/java/OptimumHouse.java"));
        String bare = text.replaceAll("(?s)/\\*.*?\\*/", "").replaceAll("//[^\n]*", "")
            .replaceAll("\"[^\"\n]*\"", "\"\"").replaceAll("'[^'\n]+'", "' '");
        String[] banned = {"throw", "try", "catch", "synchronized", "assert", "package", "Exact", "->", "::",
            "protected", "volatile", "transient", "native", "interface ", "Thread", "java.io", "java.nio", "Random",
            "nanoTime", "currentTimeMillis", "hashCode", "toString", "getClass", "var ", "double", "float"};
        for (String word : banned) {
            String whole = Character.isLetter(word.charAt(0)) && !word.equals("Exact") ? "\\b" + word.trim() + "\\b" : word;
            Kit.due("the source has " + word, Pattern.compile(whole).matcher(bare).find(), false);
        }
        String[] imports = text.lines().filter(line -> line.startsWith("import")).toArray(String[]::new);
        Kit.due("imports", String.join(" ", imports), "import java.util.Arrays;");
        int open = 0;
        int longest = 0;
        boolean constructor = false;
        for (String line : bare.split("\n")) {
            boolean head = line.matches("( {4}| {8})[A-Za-z].*\\) \\{") && !line.contains(" class ");
            open = head ? 1 : open > 0 ? open + 1 : 0;
            constructor = head ? line.matches(" +(public )?[A-Z][A-Za-z]*\\(.*") : constructor;
            boolean makes = line.matches(".*\\b(new|copyOf|copyOfRange|clone|StringBuilder|substring|toCharArray)\\b.*");
            Kit.due("a method makes something: " + line, makes && open > 0 && !constructor, false);
            if (line.matches("( {4}| {8})\\}")) {
                longest = Math.max(longest, open);
                open = 0;
            }
        }
        Kit.due("methods are found", longest > 20, true);
        Kit.due("the longest method has " + longest + " lines", longest <= 60, true);
    }
}
