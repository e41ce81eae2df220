import java.util.ArrayList;
import java.util.Arrays;
import java.util.List;
import java.util.Random;

/** All promises: random runs of calls, with right and wrong numbers, against the model. */
public final class RandomRunsTest {
    private static final int RUNS = 200, CALLS = 510;
    private static final Check check = new Check();

    /** Each act with the least and the most of each of its numbers. */
    private static final String[] ACTS = {
        "type 0 2 menu", "type 0 2 menu", "type 0 2 menu", "type 0 2 menu", "type 0 2 menu", "type 0 2 menu",
        "type 0 2 0 255", "wipe 0 2", "fault 0 2", "undo 0 2", "undo 0 2", "calm 0 2 0 9", "does 0 6 -9 9",
        "set 0 0 1 10", "set 1 1 0 2", "set 2 2 even", "set 0 2 0 126", "price 0 6 0 99", "price 0 6 0 3", "read 0 3 0 2",
        "dish 0 2 0 23", "level 0 2 0 23", "hiccups 0 2", "broken 0 2", "judged", "armistice 0 1", "led 0 2 0 23",
        "odds 0 23 0 7 0 1", "heard 0 2 any", "quiet 0 1 0 23 0 23 -1 12", "quiet 0 1 0 8 8 23 -1 2",
        "quiet 0 1 0 8 8 23 -1 -1", "force 0 23 1 12 0 1", "force 0 12 1 12 0 1",
        "seen 0 2 0 23 0 1", "seen 0 2 0 23 0 1", "forget", "fright 0 2", "unlike", "parrot 0 1", "trained 0 1 0 2",
        "sheet 0 3 0 2 0 48", "sheet 0 3 0 2 -2 5", "lose 0 3", "put 0 3 0 2 0 12 0 6", "put 0 3 0 2 0 48 any",
        "put 0 3 0 2 0 8 0 6", "get 0 3 0 2 0 12", "get 0 3 0 2 0 48", "copy 0 3 0 9 0 3 0 9 0 9", "copy 0 1 0 2 0 1 0 2 0 2",
        "write 0 2 0 3", "count 0 8", "digest"};

    public static void main(String[] args) {
        Random random = new Random(1);
        for (int run = 0; run < RUNS; run++) {
            if (!runAgrees(random, run)) {
                break;
            }
        }
        check.end();
    }

    private static boolean runAgrees(Random random, int run) {
        HiccupPeace x = new HiccupPeace();
        Model model = new Model();
        List<String> calls = new ArrayList<>();
        int wrongOneIn = run % 3 == 0 ? 4 : 25;
        for (int call = 0; call < CALLS; call++) {
            String[] words = ACTS[random.nextInt(ACTS.length)].split(" ");
            boolean rare = words[0].equals("wipe") || words[0].equals("forget") || words[0].equals("lose");
            if (rare && random.nextInt(4) != 0) {
                continue;
            }
            int[] numbers = numbers(random, words, wrongOneIn);
            String told = Acts.told(words[0], numbers);
            calls.add(told);
            long got = Acts.call(x, words[0], numbers);
            long due = model.call(words[0], numbers);
            if (got != due) {
                System.out.println("run " + run + ": " + calls);
                check.due(told, got, due);
                return false;
            }
        }
        check.due("digest of run " + run, x.digest(), model.call("digest", new int[0]));
        check.due("finding of run " + run, x.count(8), model.call("count", new int[] {8}));
        return true;
    }

    private static int[] numbers(Random random, String[] words, int wrongOneIn) {
        int[] row = new int[5];
        int n = 0;
        for (int w = 1; w < words.length; w++) {
            if (words[w].equals("menu")) {
                row[n] = Model.LETTERS.charAt(random.nextInt(7));
            } else if (words[w].equals("any")) {
                row[n] = random.nextInt();
            } else if (words[w].equals("even")) {
                row[n] = random.nextInt(64) * 2;
            } else {
                int least = Integer.parseInt(words[w]);
                int most = Integer.parseInt(words[w + 1]);
                row[n] = number(random, least, most, wrongOneIn);
                w++;
            }
            n++;
        }
        return Arrays.copyOf(row, n);
    }

    private static int number(Random random, int least, int most, int wrongOneIn) {
        if (random.nextInt(wrongOneIn) == 0) {
            int[] edges = {least - 1, most + 1, Integer.MIN_VALUE, Integer.MAX_VALUE, -1, random.nextInt(), least, most};
            return edges[random.nextInt(edges.length)];
        }
        return least + random.nextInt(most - least + 1);
    }
}
