import java.lang.reflect.InvocationTargetException;
import java.lang.reflect.Method;
import java.util.ArrayList;
import java.util.Arrays;
import java.util.List;
import java.util.Map;
import java.util.Random;
import java.util.TreeMap;

/** Runs of 512 calls each, drawn from fixed seeds, every call's answer and state held against the model's. */
public final class RandomRunsTest {
    private static final int RUNS = 80;
    private static final int CALLS = 512;
    private static final int[] WILD = {Integer.MIN_VALUE, Integer.MAX_VALUE, -1, 256, 255, 1 << 31 | 1, 65536};

    /** What kind each argument of a method is; see number(). */
    private static final String[] CALLS_AND_KINDS = {
        "feed rn", "feedRow rfsm", "feedLowFirst rn", "feedHighFirst rn", "feedOften rno", "feedText rt",
        "feedBackward rt", "feedPart rtee", "feedCheck rr", "begin r", "beginAll", "knock",
        "type tn", "typeRow tfsm", "typeCheck tr", "flip tpb", "set tpn", "drop tm", "wipe t", "join ttt",
        "change ttt", "copy tt",
        "low r", "high r", "hex r", "check r", "hasBit rB", "byteOf rP", "ones r", "had r", "areLike rr",
        "apart rr", "compare rr",
        "length t", "byteAt tp", "bytes t", "hexOf t", "lowOf t", "isCheckOf tr", "hexFlipped tpb", "flips t",
        "findFlip tr", "evenOnes t", "apartOf tt", "hexJoined tt", "house w", "isSound", "digest",
    };

    private final Due due = new Due();
    private final Map<String, Method> methods = new TreeMap<>();

    public static void main(String[] args) throws Exception {
        RandomRunsTest test = new RandomRunsTest();
        for (Method method : Checkrow.class.getMethods()) {
            test.methods.put(method.getName(), method);
        }
        for (int seed = 0; seed < RUNS; seed++) {
            test.run(seed);
        }
        test.due.end();
    }

    private void run(int seed) throws Exception {
        Random random = new Random(seed);
        Checkrow x = new Checkrow();
        Model model = new Model();
        List<String> before = Due.state(x);
        for (int i = 0; i < CALLS; i++) {
            // Texts that stay nearly full would refuse most of what is typed.
            boolean full = model.texts.stream().mapToInt(List::size).sum() > 100;
            String[] call = full && random.nextInt(4) == 0 ? new String[] {"wipe", "t"}
                    : CALLS_AND_KINDS[random.nextInt(CALLS_AND_KINDS.length)].split(" ");
            int[] a = arguments(random, call.length == 1 ? "" : call[1], model);
            String told = "run " + seed + ", call " + i + ": " + call[0] + Arrays.toString(a);
            boolean refused = false;
            Object wanted;
            try {
                wanted = model.answer(call[0], a);
            } catch (Model.Refusal refusal) {
                wanted = refusal.due;
                refused = true;
            }
            due.same(told, answer(x, call[0], a), wanted);
            List<String> now = Due.state(x);
            due.same("the state behind " + told, now, state(model));
            if (refused) {
                due.same("the state behind the refused " + told, now, before);
            }
            before = now;
        }
    }

    private Object answer(Checkrow x, String name, int[] a) throws Exception {
        Object[] boxed = Arrays.stream(a).boxed().toArray();
        try {
            return methods.get(name).invoke(x, boxed);
        } catch (InvocationTargetException thrown) {
            return thrown.getCause().getClass();
        }
    }

    private static List<String> state(Model model) {
        List<String> rows = new ArrayList<>();
        for (List<Integer> fed : model.registers) {
            rows.add(Model.hexOf(Model.check(fed)) + " of " + fed.size());
        }
        for (List<Integer> text : model.texts) {
            rows.add(text.size() + ": " + String.join(" ", text.stream().map(String::valueOf).toList()));
        }
        rows.add("refused " + model.refused);
        return rows;
    }

    private static int[] arguments(Random random, String kinds, Model model) {
        int[] a = new int[kinds.length()];
        int size = 0;
        for (int i = 0; i < a.length; i++) {
            a[i] = number(random, kinds.charAt(i), size);
            if (kinds.charAt(i) == 't' && a[i] >= 0 && a[i] < 6) {
                size = model.texts.get(a[i]).size();
            }
        }
        return a;
    }

    /** Mostly what fits, often an edge, now and then what lies one beyond or far off. */
    private static int number(Random random, char kind, int size) {
        switch (kind) {
            case 'r':
                return near(random, 0, 3);
            case 't':
                return near(random, 0, 5);
            case 'f':
                return near(random, -999, 999);
            case 's':
                return near(random, -99, 99);
            case 'm':
                return random.nextBoolean() ? 1 + random.nextInt(6) : near(random, 1, 24);
            case 'o':
                return near(random, 1, 99);
            case 'e':
                return near(random, 0, size);
            case 'p':
                return near(random, 0, Math.max(0, size - 1));
            case 'b':
                return near(random, 0, 7);
            case 'B':
                return near(random, 0, 31);
            case 'P':
                return near(random, 0, 3);
            case 'w':
                return near(random, 0, 6);
            default:
                return random.nextInt(3) == 0 ? WILD[random.nextInt(WILD.length)]
                        : random.nextBoolean() ? random.nextInt(256) : random.nextInt();
        }
    }

    private static int near(Random random, int least, int most) {
        int draw = random.nextInt(100);
        if (draw < 2) {
            return least - 1;
        }
        if (draw < 4) {
            return most + 1;
        }
        if (draw < 5) {
            return WILD[random.nextInt(WILD.length)];
        }
        if (draw < 15) {
            return draw % 2 == 0 ? least : most;
        }
        return least + random.nextInt(most - least + 1);
    }
}
