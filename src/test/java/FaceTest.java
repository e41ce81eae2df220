import java.io.IOException;
import java.lang.reflect.Constructor;
import java.lang.reflect.Field;
import java.lang.reflect.Method;
import java.lang.reflect.Modifier;
import java.nio.file.Files;
import java.nio.file.Path;
import java.util.ArrayList;
import java.util.List;
import java.util.Map;
import java.util.Set;
import java.util.TreeMap;
import java.util.TreeSet;
import java.util.regex.Matcher;
import java.util.regex.Pattern;

/** The public face, and those rules of LANGUAGE.md that can be read off the class and its source. */
public final class FaceTest {
    private static final Check check = new Check();
    private static final String[] FACE = {
        "int type 2", "int wipe 1", "int fault 1", "int undo 1", "int calm 2", "int does 2", "int set 2", "int price 2",
        "int read 2", "int dish 2", "int level 2", "int hiccups 1", "int broken 1", "int judged 0", "int armistice 1",
        "int led 2", "long odds 3", "int heard 2", "int quiet 4", "int force 3", "int seen 3", "int forget 0",
        "int fright 1", "int unlike 0", "int parrot 1", "int trained 2", "int sheet 3", "int lose 1", "int put 4",
        "int get 3", "int copy 5", "int write 2", "int count 1", "long digest 0"};
    private static final String[] NOT_ALLOWED = {
        "throw", "throws", "try", "catch", "finally", "synchronized", "assert", "package", "protected", "hashCode",
        "HashMap", "Random", "Thread", "\\w+Exact"};

    public static void main(String[] args) throws IOException {
        methods();
        fieldsAndConstructors();
        nested();
        source(Files.readString(Path.of("src/main/java/HiccupPeace.java")));
        check.end();
    }

    private static void methods() {
        Set<String> due = new TreeSet<>(Set.of(FACE));
        Set<String> names = new TreeSet<>();
        Set<String> got = new TreeSet<>();
        for (Method m : HiccupPeace.class.getDeclaredMethods()) {
            if (Modifier.isPublic(m.getModifiers())) {
                got.add(m.getReturnType().getName() + " " + m.getName() + " " + m.getParameterCount());
                names.add(m.getName());
                for (Class<?> type : m.getParameterTypes()) {
                    check.isTrue("numbers of " + m.getName() + " are ints", type == int.class);
                }
            }
        }
        check.isTrue("the face is " + due + " and not " + got, due.equals(got));
        for (Method m : HiccupPeace.class.getDeclaredMethods()) {
            int how = m.getModifiers();
            check.isTrue(m + " is public or private", Modifier.isPublic(how) || Modifier.isPrivate(how));
            check.isTrue(m + " bears no public name", Modifier.isPublic(how) || !names.contains(m.getName()));
            check.isTrue(m + " takes seven at most", m.getParameterCount() <= 7);
        }
    }

    private static void fieldsAndConstructors() {
        check.due("NONE", HiccupPeace.NONE, -1);
        check.due("BAD", HiccupPeace.BAD, -2);
        check.due("NOT", HiccupPeace.NOT, -3);
        check.due("FULL", HiccupPeace.FULL, -4);
        Set<String> open = new TreeSet<>();
        for (Field f : HiccupPeace.class.getDeclaredFields()) {
            if (!Modifier.isPrivate(f.getModifiers())) {
                open.add(Modifier.toString(f.getModifiers()) + " " + f.getType() + " " + f.getName());
            }
            check.isTrue(f + " is final if static", !Modifier.isStatic(f.getModifiers())
                    || Modifier.isFinal(f.getModifiers()));
        }
        String constant = "public static final int ";
        check.isTrue("the constants: " + open, open.equals(Set.of(
                constant + "NONE", constant + "BAD", constant + "NOT", constant + "FULL")));
        Constructor<?>[] all = HiccupPeace.class.getDeclaredConstructors();
        check.due("constructors", all.length, 1);
        check.isTrue("it is public and takes nothing", Modifier.isPublic(all[0].getModifiers())
                && all[0].getParameterCount() == 0);
        int how = HiccupPeace.class.getModifiers();
        check.isTrue("the class is public and final", Modifier.isPublic(how) && Modifier.isFinal(how));
        check.isTrue("it has no package", HiccupPeace.class.getPackageName().isEmpty());
    }

    private static void nested() {
        Class<?>[] inside = HiccupPeace.class.getDeclaredClasses();
        check.isTrue("some twelve classes at most", inside.length < 12);
        for (Class<?> c : inside) {
            check.isTrue(c + " is static", Modifier.isStatic(c.getModifiers()));
            check.isTrue(c + " is not public", !Modifier.isPublic(c.getModifiers()));
            long own = java.util.Arrays.stream(c.getDeclaredFields())
                    .filter(f -> !Modifier.isStatic(f.getModifiers())).count();
            check.isTrue(c + " has some twenty fields at most", own <= 20);
        }
    }

    private static void source(String text) {
        String code = text.replaceAll("(?s)/\\*.*?\\*/", " ").replaceAll("//[^\n]*", " ");
        for (String word : NOT_ALLOWED) {
            Matcher m = Pattern.compile("\\b" + word + "\\b").matcher(code);
            check.isTrue("the source does without " + word, !m.find());
        }
        check.isTrue("no lambda", code.lines().noneMatch(line -> line.contains("->") && !line.contains("case ")
                && !line.contains("default ")));
        check.isTrue("no method reference", !code.contains("::"));
        check.isTrue("no library but what is listed", code.lines().noneMatch(line -> line.startsWith("import ")
                && !line.matches("import java\\.util\\.(ArrayList|List|Arrays|Iterator);")));
        Map<String, String> bodies = bodies(code);
        check.isTrue("the methods are found", bodies.size() >= FACE.length);
        for (String name : bodies.keySet()) {
            int deep = depth(bodies, List.of(name));
            check.isTrue(name + " goes " + deep + " calls deep, eight at most", deep <= 8);
        }
    }

    /** Each method's name with its lines, and those of its namesakes. */
    private static Map<String, String> bodies(String code) {
        Map<String, String> found = new TreeMap<>();
        Matcher m = Pattern.compile("(?ms)^( {4}| {8})(?:[a-zA-Z\\[\\]]+ )+(\\w+)\\([^)]*\\) \\{\n(.*?)^\\1\\}").matcher(code);
        while (m.find()) {
            check.isTrue(m.group(2) + " is short", m.group(3).lines().count() <= 65);
            found.merge(m.group(2), m.group(3), String::concat);
        }
        return found;
    }

    /** How deep the calls go that stand open behind these, recursion left out. */
    private static int depth(Map<String, String> bodies, List<String> open) {
        int deepest = open.size();
        Matcher m = Pattern.compile("\\b(\\w+)\\(").matcher(bodies.get(open.get(open.size() - 1)));
        Set<String> called = new TreeSet<>();
        while (m.find()) {
            called.add(m.group(1));
        }
        for (String name : called) {
            if (bodies.containsKey(name) && !open.contains(name)) {
                List<String> deeper = new ArrayList<>(open);
                deeper.add(name);
                deepest = Math.max(deepest, depth(bodies, deeper));
            }
        }
        return deepest;
    }
}
