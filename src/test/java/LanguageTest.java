import java.lang.reflect.Array;
import java.lang.reflect.Field;
import java.lang.reflect.Method;
import java.lang.reflect.Modifier;
import java.nio.charset.StandardCharsets;
import java.nio.file.Files;
import java.nio.file.Path;
import java.util.ArrayDeque;
import java.util.ArrayList;
import java.util.Collections;
import java.util.Deque;
import java.util.HashSet;
import java.util.IdentityHashMap;
import java.util.List;
import java.util.Set;
import java.util.TreeSet;
import java.util.regex.Matcher;
import java.util.regex.Pattern;

/** The rules of LANGUAGE.md that a test can see, and the room that one object takes. */
public final class LanguageTest {
    private static final String FACE = "against(2) count(1) end(1) fault(0) feed(5) flow(4) foretold(5) height(4) "
            + "lake(2) land(5) level(1) map(5) plan(0) size(2) spring(3) status(0) stays(2) wasted(1)";
    private static int wrong = 0;

    public static void main(String[] args) throws Exception {
        String code = code(Files.readString(Path.of("src/main/java/DeltaRuns.java"), StandardCharsets.UTF_8));
        words(code);
        face();
        members();
        methodLengths(code);
        room();
        System.out.println(wrong == 0 ? "the language is kept to" : wrong + " rules are broken");
        if (wrong != 0) {
            System.exit(1);
        }
    }

    private static void must(boolean holds, String what) {
        if (!holds) {
            wrong++;
            System.out.println(what);
        }
    }

    /** The program without its comments and without what stands in its texts. */
    private static String code(String source) {
        for (int i = 0; i < source.length(); i++) {
            must(source.charAt(i) < 128, "a sign beyond 127 at " + i);
        }
        return source.replaceAll("(?s)/\\*.*?\\*/", "").replaceAll("//[^\n]*", "")
                .replaceAll("\"[^\"\n]*\"", "\"\"");
    }

    private static void words(String code) {
        String bad = "throw|throws|try|catch|finally|synchronized|assert|package|native|volatile|transient|"
                + "Object|hashCode|toString|Thread|Random|Exception|\\w+Exact|out|err|printf|nanoTime|protected";
        Matcher word = Pattern.compile("\\b(" + bad + ")\\b").matcher(code);
        while (word.find()) {
            must(false, "rule 4, 6 or 13: " + word.group());
        }
        must(!code.contains("->") && !code.contains("::"), "rule 2: a lambda or a method reference");
        must(!Pattern.compile("\"\\s*\\+|\\+\\s*\"").matcher(code).find(), "rule 10: texts joined by +");
        Matcher made = Pattern.compile("\\bimport\\s+([\\w.]+)").matcher(code);
        while (made.find()) {
            must(List.of("java.util.Arrays", "java.util.ArrayList", "java.util.List").contains(made.group(1)),
                    "rule 4: " + made.group());
        }
    }

    private static void face() {
        Class<?> c = DeltaRuns.class;
        must(Modifier.isPublic(c.getModifiers()) && Modifier.isFinal(c.getModifiers()), "rule 1: public and final");
        Set<String> open = new TreeSet<>();
        for (Method m : c.getDeclaredMethods()) {
            if (!Modifier.isPrivate(m.getModifiers()) && !m.isSynthetic()) {
                open.add(m.getName() + "(" + m.getParameterCount() + ")");
                must(Modifier.isPublic(m.getModifiers()) && m.getReturnType() == int.class, "rule 1: " + m);
            }
        }
        must(String.join(" ", open).equals(FACE), "rule 1: the face is " + open);
        for (Field f : c.getDeclaredFields()) {
            must(Modifier.isPrivate(f.getModifiers()) || f.getName().equals("NONE"), "rule 1: " + f);
        }
        must(c.getDeclaredConstructors().length == 1, "rule 1: one constructor");
    }

    private static List<Class<?>> classes() {
        List<Class<?>> all = new ArrayList<>(List.of(DeltaRuns.class));
        Collections.addAll(all, DeltaRuns.class.getDeclaredClasses());
        return all;
    }

    private static void members() {
        Set<String> faceNames = new HashSet<>();
        for (String name : FACE.split(" ")) {
            faceNames.add(name.replaceAll("\\(.*", ""));
        }
        must(classes().size() <= 12, "rule 11: classes");
        for (Class<?> c : classes()) {
            must(c == DeltaRuns.class || Modifier.isStatic(c.getModifiers()), "rule 2: " + c);
            int fields = 0;
            for (Field f : c.getDeclaredFields()) {
                boolean fixed = Modifier.isStatic(f.getModifiers());
                must(!fixed || Modifier.isFinal(f.getModifiers()), "rule 5: " + f);
                fields += fixed ? 0 : 1;
            }
            must(fields <= 20, "rule 11: fields of " + c);
            for (Method m : c.getDeclaredMethods()) {
                must(m.getParameterCount() <= 7, "rule 11: " + m);
                must(Modifier.isPublic(m.getModifiers()) || !faceNames.contains(m.getName()), "rule 1: " + m);
            }
        }
    }

    private static void methodLengths(String code) {
        int start = 0;
        String[] lines = code.split("\n");
        for (int i = 0; i < lines.length; i++) {
            if (lines[i].matches("( {4}| {8})\\w.*\\) \\{")) {
                start = i;
            }
            must(!lines[i].matches("( {4}| {8})\\}") || i - start < 60 || lines[start].contains("class"),
                    "rule 11: a long method ends at line " + i);
        }
    }

    /** Even an object that has run all rules must leave room for hundreds like it. */
    private static void room() throws IllegalAccessException {
        long[] fresh = roomOf(new DeltaRuns());
        DeltaRuns d = new DeltaRuns();
        d.size(12, 10);
        for (int rule = 0; rule < 36; rule++) {
            d.height(rule, 30, 0, 0);
        }
        long[] used = roomOf(d);
        System.out.println("room of a new object: " + fresh[0] + " objects, " + fresh[1] + " fields and elements; "
                + "of one that ran all rules: " + used[0] + ", " + used[1]);
        must(fresh[0] < 100 && fresh[1] < 4000, "the room of a new object");
        must(used[0] < 200 && used[1] < 25000, "the room of an object");
        d.stays(-1, 0);
        d.size(2, 2);
        d.stays(-1, 0);
        must(roomOf(d)[1] == used[1], "rows are used again");
    }

    private static long[] roomOf(Object root) throws IllegalAccessException {
        Set<Object> seen = Collections.newSetFromMap(new IdentityHashMap<>());
        Deque<Object> open = new ArrayDeque<>(List.of(root));
        long elements = 0;
        while (!open.isEmpty()) {
            Object o = open.pop();
            if (!seen.add(o)) {
                continue;
            }
            List<Object> parts = new ArrayList<>();
            if (o.getClass().isArray()) {
                elements += Array.getLength(o);
                if (o instanceof Object[] row) {
                    Collections.addAll(parts, row);
                }
            } else {
                for (Field f : o.getClass().getDeclaredFields()) {
                    if (!Modifier.isStatic(f.getModifiers())) {
                        f.setAccessible(true);
                        elements++;
                        parts.add(f.getType().isPrimitive() ? null : f.get(o));
                    }
                }
            }
            for (Object part : parts) {
                if (part != null) {
                    open.push(part);
                }
            }
        }
        return new long[] {seen.size(), elements};
    }
}
