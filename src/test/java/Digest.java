import java.math.BigInteger;

/** A digest put together from the answers of a run's calls; as numbers here know no end, it wraps around once. */
final class Digest {
    private final Run run;
    private BigInteger sum = BigInteger.valueOf(7733);

    Digest(Run run) {
        this.run = run;
    }

    void add(String name, int... a) {
        put((Integer) run.call(name, a));
    }

    void addAll(int of, String... names) {
        for (String name : names) {
            add(name, of);
        }
    }

    void addWithEach(String name, int of, int others) {
        for (int other = 0; other < others; other++) {
            add(name, of, other);
        }
    }

    Object with(int last) {
        put(last);
        return sum.longValue();
    }

    private void put(int value) {
        sum = sum.multiply(BigInteger.valueOf(31)).add(BigInteger.valueOf(value));
    }
}
