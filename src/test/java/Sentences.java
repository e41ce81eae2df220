import java.util.LinkedHashMap;
import java.util.List;
import java.util.Map;
import java.util.function.Supplier;

/** The sentences of the document, and the checks that stand for each of them. */
final class Sentences {
    private static final List<String> LEFT_TO_FACE_TEST = List.of("# HiccupPeace", "The public face");
    private final Map<String, String> notYetSaid = new LinkedHashMap<>();
    private String section = "";
    private String quote = "";
    private int checks = 1;
    private int wrong = 0;

    Sentences(Document document) {
        // the first of the four parts of the terms begins within "What it is"
        String[] whatItIs = document.parts().getOrDefault("What it is", "").split("======== 1 ", 2);
        String[] firstTerms = (whatItIs.length < 2 ? "" : whatItIs[1]).split("\n", 2);
        notYetSaid.put("What it is", plain(whatItIs[0] + " " + (firstTerms.length < 2 ? "" : firstTerms[1])));
        notYetSaid.put("Terms", plain(firstTerms[0] + " " + document.parts().getOrDefault("Terms", "")));
        for (Map.Entry<String, String> part : document.parts().entrySet()) {
            if (part.getKey().startsWith("Promise ")) {
                String body = plain(part.getValue()).replaceFirst("^ *`[^`]*`: ", "");
                notYetSaid.put(part.getKey().replaceAll(":.*", ""), body);
            } else if (!notYetSaid.containsKey(part.getKey()) && !LEFT_TO_FACE_TEST.contains(part.getKey())) {
                notYetSaid.put(part.getKey(), plain(part.getValue()));
            }
        }
    }

    /** Without the signs that set parts apart, and without what tells the order of the interface alone. */
    private static String plain(String text) {
        return text.replaceAll("(?m)^```.*$", " ").replaceAll("(?m)^Ahead of the calls .*$", " ")
                .replaceAll("======== [0-9]", " ").replaceAll("\\s+", " ");
    }

    void in(String name) {
        section = name;
        quote = "";
    }

    /** The checks from here on stand for these words, which no other checks stand for. */
    void says(String words) {
        closeQuote();
        String rest = notYetSaid.getOrDefault(section, "");
        int at = rest.indexOf(words);
        quote = words;
        checks = 0;
        if (at < 0) {
            fail("the document does not say this, or not once more");
            return;
        }
        notYetSaid.put(section, rest.substring(0, at) + " " + rest.substring(at + words.length()));
    }

    /** Words that leave something free, so that no check can stand for them. */
    void leavesFree(String words) {
        says(words);
        checks = 1;
    }

    private void closeQuote() {
        if (checks == 0) {
            fail("no check stands for it");
        }
    }

    private void fail(String what) {
        wrong++;
        System.out.println(section + " \"" + quote + "\": " + what);
    }

    void due(String what, long got, long want) {
        checks++;
        if (got != want) {
            fail(what + " answered " + got + ", due is " + want);
        }
    }

    void isTrue(String what, boolean is) {
        due(what, is ? 1 : 0, 1);
    }

    void same(String what, List<Long> got, List<Long> want) {
        checks++;
        if (!got.equals(want)) {
            fail(what + ": " + got + ", due is " + want);
        }
    }

    /** The act refuses with this answer and changes nothing. */
    void refused(Supplier<HiccupPeace> state, long answer, String act, int... numbers) {
        HiccupPeace x = state.get();
        String what = Acts.told(act, numbers) + " on a " + States.name(state) + " one";
        due(what, Acts.call(x, act, numbers), answer);
        same("behind " + what, Inventory.all(x), Inventory.all(state.get()));
    }

    /** The act tells a finding and changes nothing but count() 8. */
    void found(Supplier<HiccupPeace> state, int finding, String act, int... numbers) {
        HiccupPeace x = state.get();
        String what = Acts.told(act, numbers) + " on a " + States.name(state) + " one";
        due(what, Acts.call(x, act, numbers), act.equals("get") ? Integer.MIN_VALUE : -10 - finding);
        List<Long> want = Inventory.all(state.get());
        want.set(0, (long) finding);
        same("behind " + what, Inventory.all(x), want);
    }

    /** BAD, whatever else would fit: on new objects, busy ones and full ones. */
    void bad(String act, int... numbers) {
        for (Supplier<HiccupPeace> state : States.ALL) {
            refused(state, Acts.bad(act), act, numbers);
        }
    }

    /** BAD on either side of what one of the numbers may be, just beyond it and far beyond it. */
    void badBeyond(String act, int which, int least, int greatest, int... numbers) {
        int[] wrongs = {least - 1, greatest + 1, Integer.MIN_VALUE, Integer.MAX_VALUE};
        for (int v : wrongs) {
            int[] row = numbers.clone();
            row[which] = v;
            bad(act, row);
        }
    }

    /** BAD above all that one of the numbers may be, where below it something else is told. */
    void badAbove(String act, int which, int greatest, int... numbers) {
        for (int v : new int[] {greatest + 1, Integer.MAX_VALUE}) {
            int[] row = numbers.clone();
            row[which] = v;
            bad(act, row);
        }
    }

    /** Every word must have been said by now. */
    void end() {
        closeQuote();
        for (Map.Entry<String, String> rest : notYetSaid.entrySet()) {
            if (!rest.getValue().matches("[\\s.,;:]*")) {
                System.out.println(rest.getKey() + ": no check stands for \"" + rest.getValue().trim() + "\"");
                wrong++;
            }
        }
        if (notYetSaid.size() != 38) {
            System.out.println("the document has other parts than those known: " + notYetSaid.keySet());
            wrong++;
        }
        System.out.println(wrong == 0 ? "as due" : wrong + " answers are not as due");
        if (wrong != 0) {
            System.exit(1);
        }
    }
}
