import java.util.List;
import java.util.Random;

/** Runs of 512 calls each, drawn from fixed seeds, every call's answer held against the model's. */
public final class RandomRunsTest {
    private static final int RUNS = 400;
    private static final int[] WILD = {Integer.MIN_VALUE, Integer.MAX_VALUE, -1, 256, 255, 1 << 31 | 1, 65536};

    public static void main(String[] args) {
        Due due = new Due();
        for (int seed = 0; seed < RUNS; seed++) {
            run(new Random(seed), new Run(due, "run " + seed));
        }
        due.end();
    }

    private static void run(Random random, Run run) {
        while (run.left() > 0) {
            Object answer = drawn(random, run);
            // What is refused is looked behind at once; else the calls themselves ask for all often enough.
            boolean refused = answer instanceof String text && text.startsWith("throws.");
            if (run.left() >= Run.CALLS_OF_STATE && (refused && random.nextBoolean() || random.nextInt(40) == 0)) {
                run.sameState();
            }
        }
    }

    private static Object drawn(Random random, Run run) {
        // Texts that stay nearly full would refuse most of what is typed.
        boolean full = run.model.texts.stream().mapToInt(List::size).sum() > 100;
        if (full && random.nextInt(4) == 0) {
            return run.call("wipe", random.nextInt(Model.TEXTS));
        }
        Calls.Kind call = Calls.ALL.get(random.nextInt(Calls.ALL.size()));
        int[] a = new int[call.kinds.length()];
        for (int i = 0; i < a.length; i++) {
            a[i] = number(random, Calls.range(call.kinds.charAt(i), run.model.lengthOf(call.kinds, a, i)));
        }
        return run.call(call.name, a);
    }

    /** Mostly what fits, often an edge, now and then what lies one beyond or far off. */
    private static int number(Random random, int[] range) {
        if (range == Calls.ANY) {
            return random.nextInt(3) == 0 ? WILD[random.nextInt(WILD.length)]
                    : random.nextBoolean() ? random.nextInt(256) : random.nextInt();
        }
        int least = range[0];
        int most = Math.max(range[0], range[1]);
        int draw = random.nextInt(100);
        if (draw < 2) {
            return least - 1;
        }
        if (draw < 4) {
            return most + 1;
        }
        if (draw < 5) {
            return WILD[random.nextInt(WILD.length)];
        }
        if (draw < 15) {
            return draw % 2 == 0 ? least : most;
        }
        return least + random.nextInt(most - least + 1);
    }
}
