import java.io.IOException;
import java.nio.file.Files;
import java.nio.file.Path;
import java.util.ArrayList;
import java.util.Arrays;
import java.util.LinkedHashMap;
import java.util.LinkedHashSet;
import java.util.List;
import java.util.Map;
import java.util.Set;
import java.util.TreeSet;
import java.util.function.Supplier;
import java.util.regex.Matcher;
import java.util.regex.Pattern;
import java.util.stream.Stream;

/** What README.md says of calls, answers, refusals and tests, held against the class, the document and the files. */
public final class ReadmeTest {
    private static final Check check = new Check();
    private static final List<String> NAMES =
            List.of("BAD", "NOT", "FULL", "NULL", "INDEX", "CAST", "STORE", "SIZE");
    private static final List<String> FINDINGS = List.of("", "NULL", "INDEX", "CAST", "STORE", "SIZE");
    private static final Path TESTS = Path.of("src/test/java");

    public static void main(String[] args) throws IOException {
        String text = Files.readString(Path.of("README.md"));
        Document document = new Document(Path.of("../shared/DOC.md"));
        examples(text);
        refusals(rows(text, "## Refusals"));
        List<String[]> calls = rows(text, "## Calls");
        calls(calls, document);
        refusalsAsPromised(calls, document);
        refusalsAsAnswered(calls);
        tests(text);
        check.end();
    }

    /** Each call of the page's example, in its order and on one object, answers what is told behind it. */
    private static void examples(String text) {
        Matcher block = Pattern.compile("(?s)```java\n(.*?)```").matcher(text);
        check.isTrue("there is an example", block.find());
        List<String> lines = block.group(1).lines().toList();
        check.isTrue("an object is made first", lines.get(0).equals("HiccupPeace peace = new HiccupPeace();"));
        HiccupPeace peace = new HiccupPeace();
        for (String line : lines.subList(1, lines.size())) {
            Matcher m = Pattern.compile("peace\\.(\\w+)\\((.*?)\\); *// (-?\\d+): .+").matcher(line);
            check.isTrue(line + " is a call with its answer", m.matches());
            check.due(line, Acts.call(peace, m.group(1), numbers(m.group(2))), Long.parseLong(m.group(3)));
        }
    }

    private static int[] numbers(String told) {
        return Arrays.stream(told.split(", ")).filter(one -> !one.isEmpty()).mapToInt(ReadmeTest::number).toArray();
    }

    private static int number(String told) {
        if (told.startsWith("'")) {
            return told.charAt(1);
        }
        return told.equals("HiccupPeace.NONE") ? HiccupPeace.NONE : Integer.parseInt(told);
    }

    /** The table behind a heading, without its own headings. */
    private static List<String[]> rows(String text, String heading) {
        List<String[]> rows = new ArrayList<>();
        String part = text.substring(text.indexOf(heading + "\n") + heading.length());
        int end = part.indexOf("\n## ");
        for (String line : part.substring(0, end < 0 ? part.length() : end).lines().toList()) {
            if (line.startsWith("|")) {
                String[] cells = line.substring(1, line.length() - 1).split("\\|", -1);
                rows.add(Arrays.stream(cells).map(String::strip).toArray(String[]::new));
            }
        }
        check.isTrue("there is a table behind " + heading, rows.size() > 2);
        return rows.subList(2, rows.size());
    }

    private static void refusals(List<String[]> rows) {
        Map<String, Integer> due = new LinkedHashMap<>();
        due.put("BAD", HiccupPeace.BAD);
        due.put("NOT", HiccupPeace.NOT);
        due.put("FULL", HiccupPeace.FULL);
        for (int number = 1; number < FINDINGS.size(); number++) {
            due.put(FINDINGS.get(number), -10 - number);
        }
        check.isTrue("each refusal is told", rows.stream().map(row -> row[0]).toList().equals(List.copyOf(due.keySet())));
        for (String[] row : rows) {
            check.due(row[0], Integer.parseInt(row[1]), due.getOrDefault(row[0], 0));
            int number = FINDINGS.indexOf(row[0]);
            check.isTrue("the number of " + row[0], number < 0 || row[2].startsWith("finding " + number + ": "));
        }
    }

    private static void calls(List<String[]> rows, Document document) {
        List<String> due = document.face().stream()
                .map(line -> "`" + line.replaceAll("^public \\w+ ", "").replace("int ", "") + "`").toList();
        check.isTrue("the calls of the document, in its order", rows.stream().map(row -> row[0]).toList().equals(due));
        for (String[] row : rows) {
            check.due("cells of " + row[0], row.length, 4);
            check.isTrue(row[0] + " answers something", !row[2].isEmpty());
        }
    }

    private static String act(String[] row) {
        return row[0].replaceAll("`(\\w+)\\(.*", "$1");
    }

    /** The refusals that a promise names are those of the page, in their order. */
    private static void refusalsAsPromised(List<String[]> rows, Document document) {
        Pattern names = Pattern.compile("\\b(" + String.join("|", NAMES) + ")\\b");
        for (int k = 0; k < rows.size(); k++) {
            String promise = document.parts().getOrDefault("Promise " + (k + 2) + ": " + act(rows.get(k)), "");
            Set<String> due = new LinkedHashSet<>();
            Matcher m = names.matcher(promise);
            while (m.find()) {
                due.add(m.group());
            }
            check.isTrue(act(rows.get(k)) + " refuses with " + due, String.join(", ", due).equals(rows.get(k)[3]));
        }
    }

    /** The refusals that come out, when each call is tried with small numbers and wrong ones, are those of the page. */
    private static void refusalsAsAnswered(List<String[]> rows) {
        for (String[] row : rows) {
            Set<String> got = new TreeSet<>();
            int numbers = row[0].contains("()") ? 0 : row[0].split(",").length;
            for (Supplier<HiccupPeace> state : List.of(States.NEW, States.FULL)) {
                tryAll(state, act(row), new int[numbers], 0, got);
            }
            Set<String> told = new TreeSet<>(Arrays.asList(row[3].split(", ")));
            told.remove("");
            check.isTrue(act(row) + " refuses with " + told + " and not with " + got, told.equals(got));
        }
    }

    private static void tryAll(Supplier<HiccupPeace> state, String act, int[] numbers, int place, Set<String> got) {
        if (place < numbers.length) {
            for (int v : new int[] {-1, 0, 1, 49}) {
                numbers[place] = v;
                tryAll(state, act, numbers, place + 1, got);
            }
            return;
        }
        HiccupPeace x = state.get();
        long answer = Acts.call(x, act, numbers);
        int finding = act.equals("count") ? 0 : x.count(8);
        boolean anyNumber = act.equals("does") || act.equals("get");
        if (finding > 0) {
            got.add(FINDINGS.get(finding));
        } else if (answer == Acts.bad(act)) {
            got.add("BAD");
        } else if (!anyNumber && (answer == HiccupPeace.NOT || answer == HiccupPeace.FULL)) {
            got.add(answer == HiccupPeace.NOT ? "NOT" : "FULL");
        }
    }

    private static void tests(String text) throws IOException {
        check.isTrue("the command is told", text.contains("Run `.ci/run`"));
        check.isTrue("it can be run", Files.isExecutable(Path.of(".ci/run")));
        Set<String> told = new TreeSet<>();
        Matcher m = Pattern.compile("\\b\\w+Test\\b").matcher(text);
        while (m.find()) {
            told.add(m.group());
        }
        try (Stream<Path> files = Files.list(TESTS)) {
            Set<String> due = new TreeSet<>(files.map(file -> file.getFileName().toString())
                    .filter(name -> name.endsWith("Test.java")).map(name -> name.replace(".java", "")).toList());
            check.isTrue("the tests are " + due + " and not " + told, due.equals(told));
        }
        for (String helper : List.of("Check", "Acts", "Document", "States", "Inventory", "Model")) {
            check.isTrue(helper + " is told", text.contains(helper) && Files.exists(TESTS.resolve(helper + ".java")));
        }
        for (String which : List.of("Whole", "TermsOne", "TermsFour", "Menu", "Hour", "Plan", "Seen", "Sheet")) {
            check.isTrue(which + "Sentences is told", text.contains(which)
                    && Files.exists(TESTS.resolve(which + "Sentences.java")));
        }
    }
}
