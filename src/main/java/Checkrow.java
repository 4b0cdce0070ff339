/** Checks of bytes: four registers that are fed with bytes, and six texts, rows of bytes. */
public final class Checkrow {
    private static final int REGISTERS = 4;
    private static final int TEXTS = 6;
    private static final int MOST_BYTES = 24;
    private static final int MOST_OFTEN = 99;
    private static final int MOST_FIRST = 999;
    private static final int MOST_STEP = 99;

    private static final int BYTE_BITS = 8;
    private static final int BYTE_VALUES = 256;
    private static final int HIGHEST_BYTE = 255;
    private static final int CHECK_BITS = 32;
    private static final int CHECK_BYTES = 4;
    private static final int HALF_BITS = 16;
    private static final int LOW_HALF = 65535;
    private static final long UNSIGNED = 4294967295L;

    private static final int NEW_NUMBER = -1;
    private static final int CHANGER = (int) 2197175160L;
    private static final int CHECK_OF_FED_CHECK = 1214729159;

    private static final int NONE = -1;
    private static final int AS_IT_IS = -2;

    private static final int QUESTIONS = 7;
    private static final int DIGEST_START = 7733;
    private static final int DIGEST_FACTOR = 31;

    private final Feeder feeder;
    private final Register[] registers;
    private final Text[] texts;
    private final Text spare;
    private final Unlike unlike;
    private int refused;

    public Checkrow() {
        feeder = new Feeder();
        registers = new Register[REGISTERS];
        for (int register = 0; register < REGISTERS; register++) {
            registers[register] = new Register(feeder);
        }
        texts = new Text[TEXTS];
        for (int text = 0; text < TEXTS; text++) {
            texts[text] = new Text(feeder);
        }
        spare = new Text(feeder);
        unlike = new Unlike();
    }

    // ---- registers are fed

    public int feed(int register, int number) throws IndexOutOfBoundsException {
        Register fed = registerAt(register);
        fed.take(number);
        return lowHalf(fed.told());
    }

    public int feedRow(int register, int first, int step, int many)
            throws IndexOutOfBoundsException, IllegalArgumentException {
        Register fed = registerAt(register);
        requireRow(first, step, many);
        for (int i = 0; i < many; i++) {
            fed.take(first + i * step);
        }
        return lowHalf(fed.told());
    }

    public int feedLowFirst(int register, int number) throws IndexOutOfBoundsException {
        Register fed = registerAt(register);
        fed.takeLowFirst(number);
        return lowHalf(fed.told());
    }

    public int feedHighFirst(int register, int number) throws IndexOutOfBoundsException {
        Register fed = registerAt(register);
        for (int shift = CHECK_BITS - BYTE_BITS; shift >= 0; shift -= BYTE_BITS) {
            fed.take(number >>> shift);
        }
        return lowHalf(fed.told());
    }

    public int feedOften(int register, int number, int many)
            throws IndexOutOfBoundsException, IllegalArgumentException {
        Register fed = registerAt(register);
        if (many < 1 || many > MOST_OFTEN) {
            throw new IllegalArgumentException("many is not 1 to 99");
        }
        for (int i = 0; i < many; i++) {
            fed.take(number);
        }
        return lowHalf(fed.told());
    }

    public int feedText(int register, int text) throws IndexOutOfBoundsException {
        Register fed = registerAt(register);
        Text row = textAt(text);
        return fed.takePart(row, 0, row.size());
    }

    public int feedBackward(int register, int text) throws IndexOutOfBoundsException {
        Register fed = registerAt(register);
        Text row = textAt(text);
        for (int place = row.size() - 1; place >= 0; place--) {
            fed.take(row.at(place));
        }
        return fed.taken();
    }

    public int feedPart(int register, int text, int from, int to)
            throws IndexOutOfBoundsException, IllegalArgumentException {
        Register fed = registerAt(register);
        Text row = textAt(text);
        if (from < 0 || to > row.size() || from > to) {
            throw new IllegalArgumentException("from and to are no part of the text");
        }
        return fed.takePart(row, from, to);
    }

    public int feedCheck(int register, int other) throws IndexOutOfBoundsException {
        Register fed = registerAt(register);
        fed.takeLowFirst(registerAt(other).told());
        return lowHalf(fed.told());
    }

    public int begin(int register) throws IndexOutOfBoundsException {
        Register begun = registerAt(register);
        int before = begun.taken();
        begun.restart();
        return before;
    }

    public int beginAll() {
        int before = countFedRegisters();
        for (int register = 0; register < REGISTERS; register++) {
            registers[register].restart();
        }
        return before;
    }

    public int knock() {
        refused++;
        return refused;
    }

    // ---- texts are made

    public int type(int text, int number) throws IndexOutOfBoundsException, IllegalStateException {
        Text row = textAt(text);
        requireRoom(row.size() + 1);
        row.append(number);
        return row.size();
    }

    public int typeRow(int text, int first, int step, int many)
            throws IndexOutOfBoundsException, IllegalArgumentException, IllegalStateException {
        Text row = textAt(text);
        requireRow(first, step, many);
        requireRoom(row.size() + many);
        for (int i = 0; i < many; i++) {
            row.append(first + i * step);
        }
        return row.size();
    }

    public int typeCheck(int text, int register) throws IndexOutOfBoundsException, IllegalStateException {
        Text row = textAt(text);
        int told = registerAt(register).told();
        requireRoom(row.size() + CHECK_BYTES);
        for (int place = 0; place < CHECK_BYTES; place++) {
            row.append(told >>> (BYTE_BITS * place));
        }
        return row.size();
    }

    public int flip(int text, int place, int bit) throws IndexOutOfBoundsException {
        Text row = textAt(text);
        requirePlace(row, place);
        requireBitOfByte(bit);
        row.put(place, row.at(place) ^ (1 << bit));
        return row.at(place);
    }

    public int set(int text, int place, int number) throws IndexOutOfBoundsException {
        Text row = textAt(text);
        requirePlace(row, place);
        int before = row.at(place);
        row.put(place, number);
        return before;
    }

    public int drop(int text, int many) throws IndexOutOfBoundsException, IllegalArgumentException {
        Text row = textAt(text);
        if (many < 1 || many > row.size()) {
            throw new IllegalArgumentException("many is not 1 to the text's length");
        }
        row.shorten(many);
        return row.size();
    }

    public int wipe(int text) throws IndexOutOfBoundsException {
        Text row = textAt(text);
        int before = row.size();
        row.shorten(before);
        return before;
    }

    public int join(int one, int other, int to) throws IndexOutOfBoundsException, IllegalStateException {
        Text first = textAt(one);
        Text second = textAt(other);
        Text made = textAt(to);
        requireRoom(first.size() + second.size());
        // Both are read to their ends before the made one, perhaps one of them, is written.
        spare.become(first);
        spare.appendAll(second);
        made.become(spare);
        return made.size();
    }

    public int change(int one, int other, int to) throws IndexOutOfBoundsException, IllegalStateException {
        Text first = textAt(one);
        Text second = textAt(other);
        Text made = textAt(to);
        if (first.size() != second.size()) {
            throw new IllegalStateException("the texts have not the same length");
        }
        spare.become(first);
        spare.changeAll(second);
        made.become(spare);
        return made.countOnes();
    }

    public int copy(int one, int to) throws IndexOutOfBoundsException {
        Text first = textAt(one);
        Text made = textAt(to);
        made.become(first);
        return made.size();
    }

    // ---- what registers tell

    public int low(int register) throws IndexOutOfBoundsException {
        return lowHalf(registerAt(register).told());
    }

    public int high(int register) throws IndexOutOfBoundsException {
        return registerAt(register).told() >>> HALF_BITS;
    }

    public String hex(int register) throws IndexOutOfBoundsException {
        return hexDigits(registerAt(register).told());
    }

    public String check(int register) throws IndexOutOfBoundsException {
        long told = registerAt(register).told() & UNSIGNED;
        StringBuilder digits = new StringBuilder();
        // The check may be too great for an int; without its last digit it is not.
        if (told >= 10) {
            digits.append((int) (told / 10));
        }
        digits.append((int) (told % 10));
        return digits.toString();
    }

    public boolean hasBit(int register, int bit) throws IndexOutOfBoundsException {
        int told = registerAt(register).told();
        if (bit < 0 || bit >= CHECK_BITS) {
            throw new IndexOutOfBoundsException("bit is not 0 to 31");
        }
        return ((told >>> bit) & 1) == 1;
    }

    public int byteOf(int register, int place) throws IndexOutOfBoundsException {
        int told = registerAt(register).told();
        if (place < 0 || place >= CHECK_BYTES) {
            throw new IndexOutOfBoundsException("place is not 0 to 3");
        }
        return (told >>> (BYTE_BITS * place)) & HIGHEST_BYTE;
    }

    public int ones(int register) throws IndexOutOfBoundsException {
        return Integer.bitCount(registerAt(register).told());
    }

    public int had(int register) throws IndexOutOfBoundsException {
        return registerAt(register).taken();
    }

    public boolean areLike(int register, int other) throws IndexOutOfBoundsException {
        return registerAt(register).told() == registerAt(other).told();
    }

    public int apart(int register, int other) throws IndexOutOfBoundsException {
        return Integer.bitCount(registerAt(register).told() ^ registerAt(other).told());
    }

    public int compare(int register, int other) throws IndexOutOfBoundsException {
        long told = registerAt(register).told() & UNSIGNED;
        long toldByOther = registerAt(other).told() & UNSIGNED;
        if (told == toldByOther) {
            return 0;
        }
        return told > toldByOther ? 1 : -1;
    }

    // ---- what texts tell

    public int length(int text) throws IndexOutOfBoundsException {
        return textAt(text).size();
    }

    public int byteAt(int text, int place) throws IndexOutOfBoundsException {
        Text row = textAt(text);
        requirePlace(row, place);
        return row.at(place);
    }

    public String bytes(int text) throws IndexOutOfBoundsException {
        Text row = textAt(text);
        StringBuilder numbers = new StringBuilder();
        for (int place = 0; place < row.size(); place++) {
            if (place > 0) {
                numbers.append(' ');
            }
            numbers.append(row.at(place));
        }
        return numbers.toString();
    }

    public String hexOf(int text) throws IndexOutOfBoundsException {
        return hexDigits(textAt(text).told());
    }

    public int lowOf(int text) throws IndexOutOfBoundsException {
        return lowHalf(textAt(text).told());
    }

    public boolean isCheckOf(int text, int register) throws IndexOutOfBoundsException {
        return textAt(text).told() == registerAt(register).told();
    }

    public String hexFlipped(int text, int place, int bit) throws IndexOutOfBoundsException {
        Text row = textAt(text);
        requirePlace(row, place);
        requireBitOfByte(bit);
        return hexDigits(row.told() ^ row.changeByFlip(BYTE_BITS * place + bit));
    }

    public int flips(int text) throws IndexOutOfBoundsException {
        return countUnlikeFlips(textAt(text));
    }

    public int findFlip(int text, int register) throws IndexOutOfBoundsException {
        Text row = textAt(text);
        int change = row.told() ^ registerAt(register).told();
        if (change == 0) {
            return AS_IT_IS;
        }
        for (int bit = 0; bit < row.bits(); bit++) {
            if (row.changeByFlip(bit) == change) {
                return bit;
            }
        }
        return NONE;
    }

    public int evenOnes(int text) throws IndexOutOfBoundsException {
        Text row = textAt(text);
        int number = NEW_NUMBER;
        int even = 0;
        for (int end = 0; end <= row.size(); end++) {
            if (end > 0) {
                number = row.fedInto(number, end - 1, end);
            }
            if ((Integer.bitCount(~number) & 1) == 0) {
                even++;
            }
        }
        return even;
    }

    public int apartOf(int one, int other) throws IndexOutOfBoundsException {
        return Integer.bitCount(textAt(one).told() ^ textAt(other).told());
    }

    public String hexJoined(int one, int other) throws IndexOutOfBoundsException {
        Text first = textAt(one);
        Text second = textAt(other);
        return hexDigits(~second.fedAllInto(first.fedAllInto(NEW_NUMBER)));
    }

    // ---- the whole house

    public int house(int what) throws IllegalArgumentException {
        switch (what) {
            case 0:
                return countFedRegisters();
            case 1:
                return sumTaken();
            case 2:
                return countFilledTexts();
            case 3:
                return sumSizes();
            case 4:
                return countUnlikeRegisters();
            case 5:
                return countUnlikeTexts();
            case 6:
                return refused;
            default:
                throw new IllegalArgumentException("what is not 0 to 6");
        }
    }

    public boolean isSound() {
        for (int text = 0; text < TEXTS; text++) {
            if (!isSoundText(texts[text])) {
                return false;
            }
        }
        for (int one = 0; one < TEXTS; one++) {
            for (int other = one + 1; other < TEXTS; other++) {
                if (!isSoundPair(texts[one], texts[other])) {
                    return false;
                }
            }
        }
        return true;
    }

    public long digest() {
        long sum = DIGEST_START;
        for (int what = 0; what < QUESTIONS; what++) {
            sum = digestWith(sum, house(what));
        }
        sum = digestWithRegisters(sum);
        sum = digestWithPairsOfRegisters(sum);
        sum = digestWithTexts(sum);
        sum = digestWithPairsOfTexts(sum);
        sum = digestWithFoundFlips(sum);
        return digestWith(sum, isSound() ? 1 : 0);
    }

    // ---- what is asked of a call's arguments

    private Register registerAt(int register) {
        if (register < 0 || register >= REGISTERS) {
            throw new IndexOutOfBoundsException("a register is not 0 to 3");
        }
        return registers[register];
    }

    private Text textAt(int text) {
        if (text < 0 || text >= TEXTS) {
            throw new IndexOutOfBoundsException("a text is not 0 to 5");
        }
        return texts[text];
    }

    private static void requirePlace(Text row, int place) {
        if (place < 0 || place >= row.size()) {
            throw new IndexOutOfBoundsException("place is not within the text");
        }
    }

    private static void requireBitOfByte(int bit) {
        if (bit < 0 || bit >= BYTE_BITS) {
            throw new IndexOutOfBoundsException("bit is not 0 to 7");
        }
    }

    private static void requireRow(int first, int step, int many) {
        if (first < -MOST_FIRST || first > MOST_FIRST) {
            throw new IllegalArgumentException("first is not -999 to 999");
        }
        if (step < -MOST_STEP || step > MOST_STEP) {
            throw new IllegalArgumentException("step is not -99 to 99");
        }
        if (many < 1 || many > MOST_BYTES) {
            throw new IllegalArgumentException("many is not 1 to 24");
        }
    }

    private static void requireRoom(int size) {
        if (size > MOST_BYTES) {
            throw new IllegalStateException("a text has at most 24 bytes");
        }
    }

    // ---- parts of a check

    private static int lowHalf(int told) {
        return told & LOW_HALF;
    }

    private static String hexDigits(int told) {
        StringBuilder digits = new StringBuilder();
        for (int shift = CHECK_BITS - 4; shift >= 0; shift -= 4) {
            int digit = (told >>> shift) & 15;
            digits.append((char) (digit < 10 ? '0' + digit : 'a' + digit - 10));
        }
        return digits.toString();
    }

    // ---- counts and sums

    private int countFedRegisters() {
        int many = 0;
        for (int register = 0; register < REGISTERS; register++) {
            if (registers[register].taken() > 0) {
                many++;
            }
        }
        return many;
    }

    private int sumTaken() {
        int sum = 0;
        for (int register = 0; register < REGISTERS; register++) {
            sum += registers[register].taken();
        }
        return sum;
    }

    private int countFilledTexts() {
        int many = 0;
        for (int text = 0; text < TEXTS; text++) {
            if (texts[text].size() > 0) {
                many++;
            }
        }
        return many;
    }

    private int sumSizes() {
        int sum = 0;
        for (int text = 0; text < TEXTS; text++) {
            sum += texts[text].size();
        }
        return sum;
    }

    private int countUnlikeRegisters() {
        unlike.restart();
        for (int register = 0; register < REGISTERS; register++) {
            unlike.add(registers[register].told());
        }
        return unlike.many();
    }

    private int countUnlikeTexts() {
        unlike.restart();
        for (int text = 0; text < TEXTS; text++) {
            unlike.add(texts[text].told());
        }
        return unlike.many();
    }

    private int countUnlikeFlips(Text row) {
        int told = row.told();
        unlike.restart();
        unlike.add(told);
        for (int bit = 0; bit < row.bits(); bit++) {
            unlike.add(told ^ row.changeByFlip(bit));
        }
        return unlike.many();
    }

    // ---- soundness

    private boolean isSoundText(Text row) {
        int one = feeder.fedOwnCheck(row.fedAllInto(NEW_NUMBER));
        int other = feeder.fedOwnCheck(NEW_NUMBER);
        return one == other
                && row.fedAllInto(one) == row.fedAllInto(other)
                && ~one == CHECK_OF_FED_CHECK
                && countUnlikeFlips(row) == row.bits() + 1;
    }

    private boolean isSoundPair(Text one, Text other) {
        if (one.size() != other.size()) {
            return true;
        }
        int changed = NEW_NUMBER;
        int zeros = NEW_NUMBER;
        for (int place = 0; place < one.size(); place++) {
            changed = feeder.fedByte(changed, one.at(place) ^ other.at(place));
            zeros = feeder.fedByte(zeros, 0);
        }
        return (~changed ^ ~zeros) == (one.told() ^ other.told());
    }

    // ---- the parts of the digest

    private static long digestWith(long sum, long value) {
        return sum * DIGEST_FACTOR + value;
    }

    private long digestWithRegisters(long start) {
        long sum = start;
        for (int register = 0; register < REGISTERS; register++) {
            sum = digestWith(sum, low(register));
            sum = digestWith(sum, high(register));
            sum = digestWith(sum, had(register));
            sum = digestWith(sum, ones(register));
        }
        return sum;
    }

    private long digestWithPairsOfRegisters(long start) {
        long sum = start;
        for (int register = 0; register < REGISTERS; register++) {
            for (int other = 0; other < REGISTERS; other++) {
                sum = digestWith(sum, apart(register, other));
            }
            for (int other = 0; other < REGISTERS; other++) {
                sum = digestWith(sum, compare(register, other));
            }
        }
        return sum;
    }

    private long digestWithTexts(long start) {
        long sum = start;
        for (int text = 0; text < TEXTS; text++) {
            Text row = texts[text];
            sum = digestWith(sum, row.size());
            for (int place = 0; place < row.size(); place++) {
                sum = digestWith(sum, row.at(place));
            }
            sum = digestWith(sum, lowOf(text));
            sum = digestWith(sum, flips(text));
            sum = digestWith(sum, evenOnes(text));
        }
        return sum;
    }

    private long digestWithPairsOfTexts(long start) {
        long sum = start;
        for (int one = 0; one < TEXTS; one++) {
            for (int other = 0; other < TEXTS; other++) {
                sum = digestWith(sum, apartOf(one, other));
            }
        }
        return sum;
    }

    private long digestWithFoundFlips(long start) {
        long sum = start;
        for (int text = 0; text < TEXTS; text++) {
            for (int register = 0; register < REGISTERS; register++) {
                sum = digestWith(sum, findFlip(text, register));
            }
        }
        return sum;
    }

    /** What feeding does to the number that a register holds. */
    private static final class Feeder {
        // Eight halvings change a number by what its lowest byte alone decides.
        private final int[] changesByByte = new int[BYTE_VALUES];
        // Feeding is linear in changed bits: to flip one bit changes the check by the same number
        // whatever the other bits are, and how many bits follow it alone decides which number that is.
        private final int[] changesByFlip = new int[MOST_BYTES * BYTE_BITS];

        Feeder() {
            for (int value = 0; value < BYTE_VALUES; value++) {
                int change = value;
                for (int bit = 0; bit < BYTE_BITS; bit++) {
                    change = halved(change);
                }
                changesByByte[value] = change;
            }
            int change = 1;
            for (int following = 0; following < changesByFlip.length; following++) {
                change = halved(change);
                changesByFlip[following] = change;
            }
        }

        private static int halved(int number) {
            int half = number >>> 1;
            return (number & 1) == 1 ? half ^ CHANGER : half;
        }

        int fedByte(int number, int value) {
            return (number >>> BYTE_BITS) ^ changesByByte[(number ^ value) & HIGHEST_BYTE];
        }

        int fedLowFirst(int number, int value) {
            int fed = number;
            for (int shift = 0; shift < CHECK_BITS; shift += BYTE_BITS) {
                fed = fedByte(fed, value >>> shift);
            }
            return fed;
        }

        int fedOwnCheck(int number) {
            return fedLowFirst(number, ~number);
        }

        int changeByFlip(int following) {
            return following >= 0 && following < changesByFlip.length ? changesByFlip[following] : 0;
        }
    }

    /** One register: its number, and how many bytes it was fed. */
    private static final class Register {
        private final Feeder feeder;
        private int number = NEW_NUMBER;
        private int taken;

        Register(Feeder feeder) {
            this.feeder = feeder;
        }

        int told() {
            return ~number;
        }

        int taken() {
            return taken;
        }

        void restart() {
            number = NEW_NUMBER;
            taken = 0;
        }

        void take(int value) {
            number = feeder.fedByte(number, value);
            taken++;
        }

        void takeLowFirst(int value) {
            number = feeder.fedLowFirst(number, value);
            taken += CHECK_BYTES;
        }

        int takePart(Text row, int from, int to) {
            number = row.fedInto(number, from, to);
            taken += to - from;
            return taken;
        }
    }

    /** One text: a row of bytes. */
    private static final class Text {
        private final Feeder feeder;
        private final int[] row = new int[MOST_BYTES];
        private int size;

        Text(Feeder feeder) {
            this.feeder = feeder;
        }

        int size() {
            return size;
        }

        int bits() {
            return BYTE_BITS * size;
        }

        int at(int place) {
            return place >= 0 && place < size ? row[place] : 0;
        }

        void put(int place, int number) {
            if (place >= 0 && place < size) {
                row[place] = number & HIGHEST_BYTE;
            }
        }

        void append(int number) {
            if (size < MOST_BYTES) {
                row[size] = number & HIGHEST_BYTE;
                size++;
            }
        }

        void appendAll(Text other) {
            for (int place = 0; place < other.size; place++) {
                append(other.row[place]);
            }
        }

        void shorten(int many) {
            size = many < size ? size - many : 0;
        }

        void become(Text other) {
            for (int place = 0; place < other.size; place++) {
                row[place] = other.row[place];
            }
            size = other.size;
        }

        void changeAll(Text other) {
            for (int place = 0; place < size; place++) {
                row[place] ^= other.at(place);
            }
        }

        int countOnes() {
            int many = 0;
            for (int place = 0; place < size; place++) {
                many += Integer.bitCount(row[place]);
            }
            return many;
        }

        int fedInto(int number, int from, int to) {
            int fed = number;
            for (int place = from; place < to; place++) {
                fed = feeder.fedByte(fed, at(place));
            }
            return fed;
        }

        int fedAllInto(int number) {
            return fedInto(number, 0, size);
        }

        int told() {
            return ~fedInto(NEW_NUMBER, 0, size);
        }

        /** By which number the check would change if one bit were flipped. */
        int changeByFlip(int bit) {
            return feeder.changeByFlip(bits() - 1 - bit);
        }
    }

    /** Counts numbers, each of them once. */
    private static final class Unlike {
        // A text's own check and those of its flipped bits are 193: slots for more than twice as many
        // keep a free one near.
        private static final int SLOTS = 512;
        private static final int SLOT_SHIFT = CHECK_BITS - 9;
        private static final int SPREAD = (int) 2654435769L;

        private final int[] numbers = new int[SLOTS];
        // A slot counts as taken in its own round alone, so that no round has to clear them.
        private final int[] rounds = new int[SLOTS];
        private int round;
        private int many;

        void restart() {
            round++;
            many = 0;
        }

        void add(int number) {
            int slot = (number * SPREAD) >>> SLOT_SHIFT;
            for (int tried = 0; tried < SLOTS; tried++) {
                if (rounds[slot] != round) {
                    rounds[slot] = round;
                    numbers[slot] = number;
                    many++;
                    return;
                }
                if (numbers[slot] == number) {
                    return;
                }
                slot = (slot + 1) & (SLOTS - 1);
            }
        }

        int many() {
            return many;
        }
    }
}
