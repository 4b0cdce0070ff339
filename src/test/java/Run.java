import java.lang.reflect.InvocationTargetException;
import java.lang.reflect.Method;
import java.util.ArrayList;
import java.util.Arrays;
import java.util.List;
import java.util.Map;
import java.util.TreeMap;

/** A new object and a model of it: each call is made on both, and their answers are held side by side. */
final class Run {
    /** The document promises nothing behind this many calls, so no test may ask more of one object. */
    static final int MOST_CALLS = 512;
    /** So many calls does sameState() make. */
    static final int CALLS_OF_STATE = 15;

    private static final Map<String, Method> METHODS = methods();
    private static final int MOST_SHOWN = 12;

    final Model model = new Model();
    private final Checkrow x = new Checkrow();
    private final Due due;
    private final String about;
    private final List<String> made = new ArrayList<>();

    Run(Due due, String about) {
        this.due = due;
        this.about = about;
    }

    int left() {
        return MOST_CALLS - made.size();
    }

    /** Makes calls written as "feed(0, 1); low(0)", and answers what the last of them answered. */
    Object calls(String row) {
        Object last = null;
        for (String call : row.split(";")) {
            if (!call.isBlank()) {
                last = call(call.trim());
            }
        }
        return last;
    }

    /** An exception's answer is written throws.IllegalStateException, or with its other name. */
    Object call(String name, int... a) {
        if (left() == 0) {
            throw new IllegalStateException("a test asks more than " + MOST_CALLS + " calls of one object");
        }
        made.add(name + "(" + Arrays.toString(a).replaceAll("[\\[\\]]", "") + ")");
        Object got = ofProgram(name, a);
        same(got, ofModel(name, a));
        return got;
    }

    /** Tells the fault together with the calls that led there. */
    void same(Object got, Object wanted) {
        due.same(about + ": " + lastCalls(), got, wanted);
    }

    void sameState() {
        for (int register = 0; register < Model.REGISTERS; register++) {
            call("hex", register);
            call("had", register);
        }
        for (int text = 0; text < Model.TEXTS; text++) {
            call("bytes", text);
        }
        call("house", 6);
    }

    private Object call(String written) {
        int open = written.indexOf('(');
        String list = written.substring(open + 1, written.length() - 1);
        int[] a = list.isBlank() ? new int[0]
                : Arrays.stream(list.split(",")).map(String::trim).mapToInt(Integer::parseInt).toArray();
        return call(written.substring(0, open), a);
    }

    private String lastCalls() {
        int from = Math.max(0, made.size() - MOST_SHOWN);
        return (from > 0 ? ".. " : "") + String.join("; ", made.subList(from, made.size()));
    }

    private Object ofProgram(String name, int[] a) {
        try {
            return METHODS.get(name).invoke(x, Arrays.stream(a).boxed().toArray());
        } catch (InvocationTargetException thrown) {
            return written(thrown.getCause().getClass());
        } catch (IllegalAccessException hidden) {
            throw new IllegalStateException(name + " can't be called", hidden);
        }
    }

    private Object ofModel(String name, int[] a) {
        try {
            return model.answer(name, a);
        } catch (Model.Refusal refusal) {
            return written(refusal.due);
        }
    }

    private static String written(Class<?> exception) {
        return "throws." + exception.getSimpleName();
    }

    private static Map<String, Method> methods() {
        Map<String, Method> methods = new TreeMap<>();
        for (Method method : Checkrow.class.getMethods()) {
            methods.put(method.getName(), method);
        }
        return methods;
    }
}
