import java.util.ArrayList;
import java.util.Arrays;
import java.util.Collections;
import java.util.HashSet;
import java.util.List;
import java.util.Set;
import java.util.zip.CRC32C;

/**
 * The document's words once more, by other means than the program's: a register is the list of the
 * bytes that it was fed, checks are the Java library's, and a flipped bit is flipped.
 */
final class Model {
    static final int REGISTERS = 4;
    static final int TEXTS = 6;

    static final class Refusal extends Exception {
        private static final long serialVersionUID = 1L;
        final Class<? extends RuntimeException> due;

        Refusal(Class<? extends RuntimeException> due) {
            this.due = due;
        }
    }

    final List<List<Integer>> registers = new ArrayList<>();
    final List<List<Integer>> texts = new ArrayList<>();
    int refused;

    Model() {
        for (int i = 0; i < REGISTERS; i++) {
            registers.add(new ArrayList<>());
        }
        for (int i = 0; i < TEXTS; i++) {
            texts.add(new ArrayList<>());
        }
    }

    /** The answer to a call of the face by its name. */
    Object answer(String name, int... a) throws Refusal {
        if (name.startsWith("feed") || name.startsWith("begin") || name.equals("knock")) {
            return feeding(name, a);
        }
        switch (name) {
            case "type", "typeRow", "typeCheck", "flip", "set", "drop", "wipe", "join", "change", "copy":
                return making(name, a);
            case "low", "high", "hex", "check", "hasBit", "byteOf", "ones", "had", "areLike", "apart", "compare":
                return tellingOfRegisters(name, a);
            case "house":
                return house(a[0]);
            case "isSound":
                return isSound();
            case "digest":
                return digest();
            default:
                return tellingOfTexts(name, a);
        }
    }

    /** The length of the text that one of the first arguments names (by the letter t); 0 without one. */
    int lengthOf(String kinds, int[] a, int many) {
        int length = 0;
        for (int i = 0; i < many; i++) {
            if (kinds.charAt(i) == 't' && within(a[i], 0, TEXTS - 1)) {
                length = texts.get(a[i]).size();
            }
        }
        return length;
    }

    private Object feeding(String name, int[] a) throws Refusal {
        if (name.equals("knock")) {
            return ++refused;
        }
        if (name.equals("beginAll")) {
            int before = (int) registers.stream().filter(fed -> !fed.isEmpty()).count();
            registers.forEach(List::clear);
            return before;
        }
        List<Integer> fed = register(a[0]);
        switch (name) {
            case "feed" -> fed.add(a[1] & 255);
            case "feedRow" -> fed.addAll(row(a[1], a[2], a[3]));
            case "feedLowFirst" -> fed.addAll(fourBytes(a[1]));
            case "feedHighFirst" -> fed.addAll(backward(fourBytes(a[1])));
            case "feedOften" -> {
                due(a[2] >= 1 && a[2] <= 99, IllegalArgumentException.class);
                for (int i = 0; i < a[2]; i++) {
                    fed.add(a[1] & 255);
                }
            }
            case "feedText" -> fed.addAll(text(a[1]));
            case "feedBackward" -> fed.addAll(backward(text(a[1])));
            case "feedPart" -> {
                List<Integer> text = text(a[1]);
                due(within(a[2], 0, text.size()) && within(a[3], 0, text.size()) && a[2] <= a[3],
                        IllegalArgumentException.class);
                fed.addAll(text.subList(a[2], a[3]));
            }
            case "feedCheck" -> fed.addAll(fourBytes((int) check(register(a[1]))));
            case "begin" -> {
                int before = fed.size();
                fed.clear();
                return before;
            }
            default -> throw new AssertionError(name);
        }
        boolean tellsHad = List.of("feedText", "feedBackward", "feedPart").contains(name);
        return tellsHad ? fed.size() : (int) (check(fed) % 65536);
    }

    private Object making(String name, int[] a) throws Refusal {
        List<Integer> text = text(a[0]);
        switch (name) {
            case "type" -> {
                return typed(text, List.of(a[1] & 255));
            }
            case "typeRow" -> {
                return typed(text, row(a[1], a[2], a[3]));
            }
            case "typeCheck" -> {
                return typed(text, fourBytes((int) check(register(a[1]))));
            }
            case "flip" -> {
                place(text, a[1]);
                due(within(a[2], 0, 7), IndexOutOfBoundsException.class);
                texts.set(a[0], flipped(text, 8 * a[1] + a[2]));
                return texts.get(a[0]).get(a[1]);
            }
            case "set" -> {
                place(text, a[1]);
                return text.set(a[1], a[2] & 255);
            }
            case "drop" -> {
                due(within(a[1], 1, text.size()), IllegalArgumentException.class);
                texts.set(a[0], new ArrayList<>(text.subList(0, text.size() - a[1])));
                return texts.get(a[0]).size();
            }
            case "wipe" -> {
                int before = text.size();
                text.clear();
                return before;
            }
            case "join" -> {
                List<Integer> other = text(a[1]);
                text(a[2]);
                due(text.size() + other.size() <= 24, IllegalStateException.class);
                texts.set(a[2], joined(text, other));
                return texts.get(a[2]).size();
            }
            case "change" -> {
                List<Integer> other = text(a[1]);
                text(a[2]);
                due(text.size() == other.size(), IllegalStateException.class);
                List<Integer> changed = changed(text, other);
                texts.set(a[2], changed);
                return changed.stream().mapToInt(Integer::bitCount).sum();
            }
            case "copy" -> {
                text(a[1]);
                texts.set(a[1], new ArrayList<>(text));
                return text.size();
            }
            default -> throw new AssertionError(name);
        }
    }

    private Object tellingOfRegisters(String name, int[] a) throws Refusal {
        long check = check(register(a[0]));
        switch (name) {
            case "low":
                return (int) (check % 65536);
            case "high":
                return (int) (check / 65536);
            case "hex":
                return hexOf(check);
            case "check":
                return Long.toString(check);
            case "hasBit":
                due(within(a[1], 0, 31), IndexOutOfBoundsException.class);
                return (check >> a[1]) % 2 == 1;
            case "byteOf":
                due(within(a[1], 0, 3), IndexOutOfBoundsException.class);
                return fourBytes((int) check).get(a[1]);
            case "ones":
                return Long.bitCount(check);
            case "had":
                return registers.get(a[0]).size();
            case "areLike":
                return check == check(register(a[1]));
            case "apart":
                return Long.bitCount(check ^ check(register(a[1])));
            case "compare":
                return Integer.signum(Long.compare(check, check(register(a[1]))));
            default:
                throw new AssertionError(name);
        }
    }

    private Object tellingOfTexts(String name, int[] a) throws Refusal {
        List<Integer> text = text(a[0]);
        switch (name) {
            case "length":
                return text.size();
            case "byteAt":
                place(text, a[1]);
                return text.get(a[1]);
            case "bytes":
                return String.join(" ", text.stream().map(String::valueOf).toList());
            case "hexOf":
                return hexOf(check(text));
            case "lowOf":
                return (int) (check(text) % 65536);
            case "isCheckOf":
                return check(text) == check(register(a[1]));
            case "hexFlipped":
                place(text, a[1]);
                due(within(a[2], 0, 7), IndexOutOfBoundsException.class);
                return hexOf(check(flipped(text, 8 * a[1] + a[2])));
            case "flips":
                return flips(text);
            case "findFlip":
                return findFlip(text, check(register(a[1])));
            case "evenOnes":
                return evenOnes(text);
            case "apartOf":
                return Long.bitCount(check(text) ^ check(text(a[1])));
            case "hexJoined":
                return hexOf(check(joined(text, text(a[1]))));
            default:
                throw new AssertionError(name);
        }
    }

    private int house(int what) throws Refusal {
        due(within(what, 0, 6), IllegalArgumentException.class);
        List<List<Integer>> rows = what == 0 || what == 1 || what == 4 ? registers : texts;
        switch (what) {
            case 0, 2:
                return (int) rows.stream().filter(row -> !row.isEmpty()).count();
            case 1, 3:
                return rows.stream().mapToInt(List::size).sum();
            case 4, 5:
                return (int) rows.stream().map(Model::check).distinct().count();
            default:
                return refused;
        }
    }

    private long digest() throws Refusal {
        List<Long> values = new ArrayList<>();
        for (int what = 0; what <= 6; what++) {
            values.add((long) house(what));
        }
        for (int register = 0; register < 4; register++) {
            for (String name : List.of("low", "high", "had", "ones")) {
                values.add(number(name, register));
            }
        }
        for (int register = 0; register < 4; register++) {
            for (String name : List.of("apart", "compare")) {
                for (int other = 0; other < 4; other++) {
                    values.add(number(name, register, other));
                }
            }
        }
        for (int text = 0; text < 6; text++) {
            values.add(number("length", text));
            texts.get(text).forEach(value -> values.add((long) value));
            for (String name : List.of("lowOf", "flips", "evenOnes")) {
                values.add(number(name, text));
            }
        }
        addPairs(values, "apartOf", 6);
        addPairs(values, "findFlip", 4);
        values.add(isSound() ? 1L : 0L);
        long sum = 7733;
        for (long value : values) {
            sum = sum * 31 + value;
        }
        return sum;
    }

    private void addPairs(List<Long> values, String name, int others) throws Refusal {
        for (int text = 0; text < 6; text++) {
            for (int other = 0; other < others; other++) {
                values.add(number(name, text, other));
            }
        }
    }

    private long number(String name, int... a) throws Refusal {
        return (Integer) answer(name, a);
    }

    private List<Integer> register(int register) throws Refusal {
        due(within(register, 0, 3), IndexOutOfBoundsException.class);
        return registers.get(register);
    }

    private List<Integer> text(int text) throws Refusal {
        due(within(text, 0, 5), IndexOutOfBoundsException.class);
        return texts.get(text);
    }

    private static void place(List<Integer> text, int place) throws Refusal {
        due(within(place, 0, text.size() - 1), IndexOutOfBoundsException.class);
    }

    private static List<Integer> row(int first, int step, int many) throws Refusal {
        due(within(first, -999, 999) && within(step, -99, 99) && within(many, 1, 24),
                IllegalArgumentException.class);
        List<Integer> row = new ArrayList<>();
        int number = first;
        while (row.size() < many) {
            row.add(Math.floorMod(number, 256));
            number += step;
        }
        return row;
    }

    private static int typed(List<Integer> text, List<Integer> more) throws Refusal {
        due(text.size() + more.size() <= 24, IllegalStateException.class);
        text.addAll(more);
        return text.size();
    }

    private static void due(boolean fits, Class<? extends RuntimeException> exception) throws Refusal {
        if (!fits) {
            throw new Refusal(exception);
        }
    }

    private static boolean within(int number, int least, int most) {
        return number >= least && number <= most;
    }

    static long check(List<Integer> row) {
        CRC32C crc = new CRC32C();
        row.forEach(crc::update);
        return crc.getValue();
    }

    static String hexOf(long check) {
        return String.format("%08x", check);
    }

    static List<Integer> fourBytes(int number) {
        return new ArrayList<>(Arrays.asList(number & 255, number >> 8 & 255, number >> 16 & 255, number >> 24 & 255));
    }

    /** Word by word what the document asks, with each flipped text and each changed text written out. */
    private boolean isSound() {
        for (List<Integer> text : texts) {
            if (!isSoundText(text)) {
                return false;
            }
        }
        for (List<Integer> one : texts) {
            for (List<Integer> other : texts) {
                if (one.size() == other.size() && !isSoundPair(one, other)) {
                    return false;
                }
            }
        }
        return true;
    }

    private static boolean isSoundText(List<Integer> text) {
        List<Integer> one = joined(text, fourBytes((int) check(text)));
        List<Integer> other = fourBytes((int) check(List.of()));
        return check(one) == check(other)
                && check(joined(one, text)) == check(joined(other, text))
                && check(one) == 1214729159L
                && flips(text) == 1 + 8 * text.size();
    }

    private static boolean isSoundPair(List<Integer> one, List<Integer> other) {
        long checkOfZeros = check(Collections.nCopies(one.size(), 0));
        return (check(changed(one, other)) ^ checkOfZeros) == (check(one) ^ check(other));
    }

    private static List<Integer> changed(List<Integer> one, List<Integer> other) {
        List<Integer> changed = new ArrayList<>();
        for (int place = 0; place < one.size(); place++) {
            changed.add(one.get(place) ^ other.get(place));
        }
        return changed;
    }

    private static List<Integer> backward(List<Integer> row) {
        List<Integer> turned = new ArrayList<>();
        for (int place = row.size() - 1; place >= 0; place--) {
            turned.add(row.get(place));
        }
        return turned;
    }

    private static List<Integer> joined(List<Integer> one, List<Integer> other) {
        List<Integer> both = new ArrayList<>(one);
        both.addAll(other);
        return both;
    }

    private static List<Integer> flipped(List<Integer> text, int bit) {
        List<Integer> other = new ArrayList<>(text);
        other.set(bit / 8, text.get(bit / 8) ^ 1 << bit % 8);
        return other;
    }

    private static int flips(List<Integer> text) {
        Set<Long> checks = new HashSet<>();
        checks.add(check(text));
        for (int bit = 0; bit < 8 * text.size(); bit++) {
            checks.add(check(flipped(text, bit)));
        }
        return checks.size();
    }

    private static int findFlip(List<Integer> text, long check) {
        if (check(text) == check) {
            return -2;
        }
        for (int bit = 0; bit < 8 * text.size(); bit++) {
            if (check(flipped(text, bit)) == check) {
                return bit;
            }
        }
        return -1;
    }

    private static int evenOnes(List<Integer> text) {
        int even = 0;
        for (int length = 0; length <= text.size(); length++) {
            if (Long.bitCount(check(text.subList(0, length))) % 2 == 0) {
                even++;
            }
        }
        return even;
    }
}
