import java.io.IOException;
import java.lang.reflect.Constructor;
import java.lang.reflect.Field;
import java.lang.reflect.Method;
import java.lang.reflect.Modifier;
import java.nio.file.Files;
import java.nio.file.Path;
import java.util.ArrayList;
import java.util.LinkedHashMap;
import java.util.List;
import java.util.Map;
import java.util.Set;
import java.util.TreeMap;
import java.util.TreeSet;
import java.util.regex.Matcher;
import java.util.regex.Pattern;

/** The public face, and those rules of LANGUAGE.md that can be read off the class and its source. */
public final class FaceTest {
    private static final Check check = new Check();
    private static final int CALLS = 34;
    private static final String[] NOT_ALLOWED = {
        "throw", "throws", "try", "catch", "finally", "synchronized", "assert", "package", "protected", "hashCode",
        "HashMap", "Random", "Thread", "\\w+Exact"};

    public static void main(String[] args) throws IOException {
        String text = Files.readString(Path.of("src/main/java/HiccupPeace.java"));
        Document document = new Document(Path.of("../shared/DOC.md"));
        methods(document.face());
        face(document, text);
        promises(document);
        sections(document, text);
        fieldsAndConstructors();
        nested(document.names());
        source(text);
        check.end();
    }

    private static void methods(List<String> face) {
        check.due("calls of the document", face.size(), CALLS);
        Set<String> due = new TreeSet<>();
        for (String line : face) {
            due.add(line.replaceAll("(int) \\w+(?=[,)])", "$1").replace(" ", ""));
        }
        Set<String> names = new TreeSet<>();
        Set<String> got = new TreeSet<>();
        for (Method m : HiccupPeace.class.getDeclaredMethods()) {
            if (Modifier.isPublic(m.getModifiers())) {
                got.add(m.toString().replace("HiccupPeace.", "").replace(" ", ""));
                names.add(m.getName());
                for (Class<?> type : m.getParameterTypes()) {
                    check.isTrue("numbers of " + m.getName() + " are ints", type == int.class);
                }
            }
        }
        check.isTrue("the face is " + due + " and not " + got, due.equals(got));
        for (Method m : HiccupPeace.class.getDeclaredMethods()) {
            int how = m.getModifiers();
            check.isTrue(m + " is public or private", Modifier.isPublic(how) || Modifier.isPrivate(how));
            check.isTrue(m + " bears no public name", Modifier.isPublic(how) || !names.contains(m.getName()));
            check.isTrue(m + " takes seven at most", m.getParameterCount() <= 7);
        }
    }

    /** The class says what the document's face says, line by line and in its order. */
    private static void face(Document document, String text) {
        List<String> got = new ArrayList<>();
        Matcher m = Pattern.compile("(?m)^ {4}(public (?:int|long) \\w+\\([^)]*\\)) \\{$").matcher(text);
        while (m.find()) {
            got.add(m.group(1));
        }
        check.isTrue("the calls are " + document.face() + " and not " + got, document.face().equals(got));
        for (String line : document.otherLines()) {
            String due = line.endsWith("();") ? line.replace(";", " {") : line;
            check.isTrue("the class says " + due, text.lines().anyMatch(said -> said.strip().equals(due)));
        }
        check.due("its other lines", document.otherLines().size(), 3);
    }

    /** Promise 1 is the constructor, and behind it each call has one, in the order of the face. */
    private static void promises(Document document) {
        List<String> promised = document.promised();
        check.due("promises", promised.size(), CALLS + 1);
        check.isTrue("a new object comes first", promised.get(0).equals("HiccupPeace()"));
        for (int k = 1; k < promised.size() && k <= document.face().size(); k++) {
            String due = document.face().get(k - 1);
            String heading = "Promise " + (k + 1) + ": " + document.names().get(k - 1);
            check.isTrue("promise " + (k + 1) + " is of " + due, ("public " + promised.get(k)).equals(due));
            check.isTrue("there is a heading " + heading, document.parts().containsKey(heading));
        }
    }

    /** What the interface says ahead of some calls stands in the class, ahead of these and no others. */
    private static void sections(Document document, String text) {
        Map<String, List<String>> got = new LinkedHashMap<>();
        String section = "";
        for (String line : text.lines().toList()) {
            Matcher call = Pattern.compile("^ {4}public (?:int|long) (\\w+)\\(.*").matcher(line);
            if (line.strip().startsWith("// ---- ")) {
                section = line.strip().substring(3);
            } else if (call.matches()) {
                got.computeIfAbsent(section, none -> new ArrayList<>()).add(call.group(1));
            }
        }
        check.due("sections of the interface", document.sections().size(), 5);
        check.isTrue("sections: " + got, new ArrayList<>(got.entrySet()).equals(
                new ArrayList<>(document.sections().entrySet())));
    }

    private static void fieldsAndConstructors() {
        check.due("NONE", HiccupPeace.NONE, -1);
        check.due("BAD", HiccupPeace.BAD, -2);
        check.due("NOT", HiccupPeace.NOT, -3);
        check.due("FULL", HiccupPeace.FULL, -4);
        Set<String> open = new TreeSet<>();
        for (Field f : HiccupPeace.class.getDeclaredFields()) {
            if (!Modifier.isPrivate(f.getModifiers())) {
                open.add(Modifier.toString(f.getModifiers()) + " " + f.getType() + " " + f.getName());
            }
            check.isTrue(f + " is final if static", !Modifier.isStatic(f.getModifiers())
                    || Modifier.isFinal(f.getModifiers()));
        }
        String constant = "public static final int ";
        check.isTrue("the constants: " + open, open.equals(Set.of(
                constant + "NONE", constant + "BAD", constant + "NOT", constant + "FULL")));
        Constructor<?>[] all = HiccupPeace.class.getDeclaredConstructors();
        check.due("constructors", all.length, 1);
        check.isTrue("it is public and takes nothing", Modifier.isPublic(all[0].getModifiers())
                && all[0].getParameterCount() == 0);
        int how = HiccupPeace.class.getModifiers();
        check.isTrue("the class is public and final", Modifier.isPublic(how) && Modifier.isFinal(how));
        check.isTrue("it has no package", HiccupPeace.class.getPackageName().isEmpty());
    }

    private static void nested(List<String> publicNames) {
        Class<?>[] inside = HiccupPeace.class.getDeclaredClasses();
        check.isTrue("some twelve classes at most", inside.length < 12);
        for (Class<?> c : inside) {
            check.isTrue(c + " is static", Modifier.isStatic(c.getModifiers()));
            check.isTrue(c + " is not public", !Modifier.isPublic(c.getModifiers()));
            long own = java.util.Arrays.stream(c.getDeclaredFields())
                    .filter(f -> !Modifier.isStatic(f.getModifiers())).count();
            check.isTrue(c + " has some twenty fields at most", own <= 20);
            for (Method m : c.getDeclaredMethods()) {
                check.isTrue(m + " bears no public name", !publicNames.contains(m.getName()));
                check.isTrue(m + " takes seven at most", m.getParameterCount() <= 7);
            }
            for (Field f : c.getDeclaredFields()) {
                check.isTrue(f + " is not static", !Modifier.isStatic(f.getModifiers()));
            }
        }
    }

    private static void source(String text) {
        String code = text.replaceAll("(?s)/\\*.*?\\*/", " ").replaceAll("//[^\n]*", " ");
        for (String word : NOT_ALLOWED) {
            Matcher m = Pattern.compile("\\b" + word + "\\b").matcher(code);
            check.isTrue("the source does without " + word, !m.find());
        }
        check.isTrue("no lambda", code.lines().noneMatch(line -> line.contains("->") && !line.contains("case ")
                && !line.contains("default ")));
        check.isTrue("no method reference", !code.contains("::"));
        check.isTrue("no library but what is listed", code.lines().noneMatch(line -> line.startsWith("import ")
                && !line.matches("import java\\.util\\.(ArrayList|List|Arrays|Iterator);")));
        loops(code);
        Map<String, String> bodies = bodies(code);
        check.isTrue("the methods are found", bodies.keySet().containsAll(List.of("type", "digest", "planState")));
        for (String name : bodies.keySet()) {
            check.isTrue(name + " makes no object", name.equals("HiccupPeace") || !bodies.get(name).contains("new "));
            int deep = depth(bodies, List.of(name));
            check.isTrue(name + " goes " + deep + " calls deep, eight at most", deep <= 8);
        }
    }

    /** Each loop counts up or down to a bound that its own line tells. */
    private static void loops(String code) {
        check.isTrue("no while and no do", !Pattern.compile("\\b(while|do)\\b").matcher(code).find());
        Matcher m = Pattern.compile("\\bfor \\((.*)\\) \\{").matcher(code);
        int loops = 0;
        while (m.find()) {
            loops++;
            check.isTrue("for (" + m.group(1) + ") has an end that can be seen", m.group(1).matches(
                    "int (\\w+) = [^;]+; \\1 (<=? [^;|]+; \\1\\+\\+|>= [^;|]+; \\1--)"));
        }
        check.due("loops found", Pattern.compile("\\bfor\\b").matcher(code).results().count(), loops);
    }

    /** Each method's name with its lines, and those of its namesakes. */
    private static Map<String, String> bodies(String code) {
        Map<String, String> found = new TreeMap<>();
        Matcher m = Pattern.compile("(?ms)^( {4}| {8})(?:[a-zA-Z\\[\\]]+ )+(\\w+)\\([^)]*\\) \\{\n(.*?)^\\1\\}").matcher(code);
        while (m.find()) {
            check.isTrue(m.group(2) + " is short", m.group(3).lines().count() <= 65);
            found.merge(m.group(2), m.group(3), String::concat);
        }
        return found;
    }

    /** How deep the calls go that stand open behind these, recursion left out. */
    private static int depth(Map<String, String> bodies, List<String> open) {
        int deepest = open.size();
        Matcher m = Pattern.compile("\\b(\\w+)\\(").matcher(bodies.get(open.get(open.size() - 1)));
        Set<String> called = new TreeSet<>();
        while (m.find()) {
            called.add(m.group(1));
        }
        for (String name : called) {
            if (bodies.containsKey(name) && !open.contains(name)) {
                List<String> deeper = new ArrayList<>(open);
                deeper.add(name);
                deepest = Math.max(deepest, depth(bodies, deeper));
            }
        }
        return deepest;
    }
}
