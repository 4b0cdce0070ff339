import java.util.ArrayList;
import java.util.List;
import java.util.Objects;

/** Counts what is not as it is due, and ends a test with exit code 1 if there was any. */
final class Due {
    private static final int MOST_SHOWN = 20;
    private static final int REGISTERS = 4;
    private static final int TEXTS = 6;

    private int wrong;

    void same(String what, Object got, Object due) {
        if (!Objects.equals(got, due)) {
            tell(what + " answered " + got + ", due is " + due);
        }
    }

    /**
     * The call throws exactly the due exception, and changes nothing; the digest tells all that could be changed
     * in one call, so that a test of many refused calls keeps within 512.
     */
    void refused(String what, Checkrow x, Class<? extends RuntimeException> due, Runnable call) {
        long before = x.digest();
        Class<?> got = null;
        try {
            call.run();
        } catch (RuntimeException thrown) {
            got = thrown.getClass();
        }
        same(what + " throws", got, due);
        same("the digest behind " + what, x.digest(), before);
    }

    void tell(String fault) {
        wrong++;
        if (wrong <= MOST_SHOWN) {
            System.out.println(fault);
        }
    }

    void end() {
        System.out.println(wrong == 0 ? "all answers are as due" : wrong + " answers are not as due");
        if (wrong != 0) {
            System.exit(1);
        }
    }

    static List<String> state(Checkrow x) {
        List<String> rows = new ArrayList<>();
        for (int register = 0; register < REGISTERS; register++) {
            rows.add(x.hex(register) + " of " + x.had(register));
        }
        for (int text = 0; text < TEXTS; text++) {
            rows.add(x.length(text) + ": " + x.bytes(text));
        }
        rows.add("refused " + x.house(6));
        return rows;
    }
}
