import java.util.List;
import java.util.Set;
import java.util.TreeSet;

/**
 * Each method with each edge of each of its parameters, and all of these with one another: the last number that is
 * allowed and the first one that is not, on both sides. Each call is made on a new object and held against the model.
 */
public final class EdgesTest {
    /** Texts 0 and 5 are the ones that are called: empty, short, full, of the same length, and together just full. */
    private static final String[] STATES = {
        "",
        "type(0, 200); feedOften(3, 255, 4)",
        "typeRow(0, 7, 31, 24); feedRow(0, 7, 31, 24); feed(3, 1)",
        "typeRow(5, 7, 31, 24); typeRow(0, 1, 1, 1); feed(0, 1); knock()",
        "typeRow(0, 7, 31, 12); typeRow(5, 200, -9, 12); feedRow(3, 7, 31, 12)",
        "typeRow(0, 7, 31, 21); typeRow(5, 200, -9, 4)",
        "typeRow(0, 7, 31, 20); typeRow(5, 200, -9, 4); typeRow(1, 1, 1, 24); feedCheck(0, 0)",
        "typeRow(0, 7, 31, 24); typeRow(5, 255, 0, 24); feedOften(0, 0, 9); feedOften(3, 0, 9)",
    };

    public static void main(String[] args) {
        Due due = new Due();
        for (String state : STATES) {
            for (Calls.Kind call : Calls.ALL) {
                tryAll(due, state, call, new int[call.kinds.length()], 0);
            }
        }
        due.end();
    }

    private static void tryAll(Due due, String state, Calls.Kind call, int[] a, int parameter) {
        if (parameter == a.length) {
            Run run = new Run(due, "edges");
            run.calls(state);
            run.call(call.name, a);
            run.sameState();
            return;
        }
        Run asked = new Run(due, "edges");
        asked.calls(state);
        int length = asked.model.lengthOf(call.kinds, a, parameter);
        for (int number : edges(Calls.range(call.kinds.charAt(parameter), length))) {
            a[parameter] = number;
            tryAll(due, state, call, a, parameter + 1);
        }
    }

    private static Set<Integer> edges(int[] range) {
        Set<Integer> edges = new TreeSet<>(List.of(Integer.MIN_VALUE, Integer.MAX_VALUE));
        if (range == Calls.ANY) {
            edges.addAll(List.of(-257, -1, 0, 255, 256));
        } else {
            edges.addAll(List.of(range[0] - 1, range[0], range[1], range[1] + 1));
        }
        return edges;
    }
}
