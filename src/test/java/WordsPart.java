/** The words that all promises use: the document's "What it is" and "Description". */
final class WordsPart extends Part {
    private static final long CHANGER = 2197175160L;
    private static final long ALL_ONES = 4294967295L;
    private static final int[] NUMBERS = {0, 1, 127, 128, 254, 255, 256, 257, 511, 512, 65535, 65536, -1, -2, -128,
        -255, -256, -257, Integer.MIN_VALUE, Integer.MIN_VALUE + 200, Integer.MAX_VALUE, Integer.MAX_VALUE - 200};

    WordsPart(Due due, Book book) {
        super(due, book);
    }

    @Override
    void test() {
        section(Book.WORDS);
        whatItIs();
        numbers();
        bits();
        registers();
        feeding();
        checks();
        texts();
        rows();
        strangers();
        exceptions();
        namedFirst();
        calls();
    }

    private void whatItIs() {
        says("Checks of bytes: four REGISTERS side by side that are fed with bytes, one by one, and tell a CHECK each, "
                + "and six TEXTS, rows of bytes, that are typed, changed, joined, and fed to them.");
        // Fed by turns, each register tells what it tells if it alone is fed.
        Run turns = run();
        for (int turn = 0; turn < 9; turn++) {
            for (int register = 0; register < 4; register++) {
                turns.call("feed", register, 49 + turn + 50 * register);
            }
        }
        for (int register = 0; register < 4; register++) {
            Object alone = run().calls("feedRow(0, " + (49 + 50 * register) + ", 1, 9); check(0)");
            turns.same(turns.call("check", register), alone);
        }
        turns.sameState();
        // The nine bytes of the document's example in two texts, one of them mended, joined, and fed to a register.
        answers("3808858755", "typeRow(0, 49, 1, 4); typeRow(5, 53, 1, 5); set(5, 2, 0); flip(0, 3, 7); "
                + "typeRow(1, 0, 0, 3); type(1, 128); change(0, 1, 0); set(5, 2, 55); join(0, 5, 3); feedText(1, 3); "
                + "check(1)");

        says("One asks for CHECKS by their halves, bits, and digits, for what TEXTS would tell, for changed bits and "
                + "where they are.");
        String nine = "feedRow(2, 49, 1, 9); typeRow(4, 49, 1, 9); ";
        answers(37507, nine + "low(2)");
        answers(58118, nine + "high(2)");
        answers(true, nine + "hasBit(2, 31)");
        answers(false, nine + "hasBit(2, 2)");
        answers("3808858755", nine + "check(2)");
        answers("e3069283", nine + "hex(2)");
        answers("e3069283", nine + "hexOf(4)");
        answers(true, nine + "isCheckOf(4, 2)");
        answers(false, nine + "flip(4, 8, 7); isCheckOf(4, 2)");
        answers(71, nine + "flip(4, 8, 7); findFlip(4, 2)");
    }

    private void numbers() {
        says("Whole numbers. NONE is -1.");
        answers(-1, FILLED + "findFlip(1, 1)");
        answers(-1, "feed(0, 1); findFlip(0, 0)");

        says("X by X is by rising numbers; of several the first one.");
        run().calls(FILLED + "feed(2, 77); type(3, 8); typeRow(4, 3, 3, 3); digest()");
        run().calls("feed(0, 1); feed(1, 2); feed(2, 3); feed(3, 4); digest()");
        run().calls("type(0, 1); type(1, 2); type(2, 3); type(3, 4); type(4, 5); type(5, 6); digest()");
    }

    private void bits() {
        says("Bits of a number are numbered from 0, for 1, 2, 4 and so on;");
        for (int bit = 0; bit < 32; bit++) {
            for (int other = 0; other < 32; other++) {
                answers(bit == other, leads(0, 1L << bit) + "hasBit(0, " + other + ")");
            }
        }
        for (int bit = 0; bit < 8; bit++) {
            answers(1 << bit, "type(0, 0); flip(0, 0, " + bit + ")");
        }

        says("a number below 0 counts as that number and 2^32.");
        answers(true, "feedLowFirst(0, -2); feed(1, 254); feedOften(1, 255, 3); areLike(0, 1)");
        answers(true, "feedHighFirst(0, -2); feedOften(1, 255, 3); feed(1, 254); areLike(0, 1)");
        answers(true, "feedLowFirst(0, -2147483648); feedOften(1, 0, 3); feed(1, 128); areLike(0, 1)");
        answers(true, "feedHighFirst(0, -2147483648); feed(1, 128); feedOften(1, 0, 3); areLike(0, 1)");
        answers(true, "feedHighFirst(0, -1); feedOften(1, 255, 4); areLike(0, 1)");

        says("To CHANGE a number by another one: each bit of it changes (1 to 0, 0 to 1) that is 1 in the other one.");
        answers("6", "type(0, 12); type(1, 10); change(0, 1, 2); bytes(2)");
        answers("0", "type(0, 255); type(1, 255); change(0, 1, 2); bytes(2)");
        answers("255", "type(0, 255); type(1, 0); change(0, 1, 2); bytes(2)");
        answers("255", "type(0, 0); type(1, 255); change(0, 1, 2); bytes(2)");
    }

    private void registers() {
        says("There are REGISTERS 0 to 3.");
        for (int register = 0; register < 4; register++) {
            Run run = run();
            run.calls(with("feed(#, 1); feedRow(#, 2, 1, 3); beginAll(); feed(#, 5); ", register));
            for (int other = 0; other < 4; other++) {
                run.same(run.call("had", other), other == register ? 1 : 0);
            }
            run.sameState();
        }
        refused(INDEX, FILLED + "had(-1)");
        refused(INDEX, FILLED + "had(4)");

        says("A REGISTER holds a number of 32 bits; as it begins all of them are 1.");
        for (int register = 0; register < 4; register++) {
            answers("0", with("check(#)", register));
            answers("0", with("feedOften(#, 9, 9); begin(#); check(#)", register));
            answers(0, with("ones(#)", register));
        }
        // The highest bit is part of the number: 32 are kept, not 31.
        answers(32, leads(0, ALL_ONES) + "ones(0)");

        says("HAD: how many BYTES it was fed since it was begun.");
        answers(0, "had(0)");
        answers(31, "feedRow(0, 0, 0, 24); feed(0, 0); begin(0); feedRow(0, 0, 0, 24); feed(0, 1); "
                + "feedHighFirst(0, 1); feedOften(0, 1, 2); had(0)");
        answers(256, "feedOften(0, 1, 99); feedOften(0, 1, 99); feedOften(0, 1, 58); had(0)");
    }

    private void feeding() {
        says("To FEED it a number: only the lowest eight bits of that count, the BYTE (0 to 255).");
        for (int number : NUMBERS) {
            int value = number & 255;
            answers(true, "feed(0, " + number + "); feed(1, " + value + "); areLike(0, 1)");
            answers(true, "feedOften(0, " + number + ", 2); feedOften(1, " + value + ", 2); areLike(0, 1)");
            answers(String.valueOf(value), "type(0, " + number + "); bytes(0)");
            answers(String.valueOf(value), "type(0, 7); set(0, 0, " + number + "); bytes(0)");
        }

        says("The REGISTER's number is CHANGED by the BYTE; then, eight times: if its bit 0 is 1, it is halved (that bit "
                + "falls away) and then CHANGED by 2197175160; otherwise it is halved.");
        for (int value = 0; value < 256; value++) {
            long number = fed(ALL_ONES, value);
            Run run = run();
            run.call("feed", 0, value);
            run.same(run.call("check", 0), Long.toString(number ^ ALL_ONES));
            number = fed(number, 255 - value);
            run.call("feed", 0, 255 - value);
            run.same(run.call("check", 0), Long.toString(number ^ ALL_ONES));
        }

        says("(So the CHECK of the nine BYTES 49, 50, .. to 57 is 3808858755.)");
        answers("3808858755", "feed(0, 49); feed(0, 50); feed(0, 51); feed(0, 52); feed(0, 53); feed(0, 54); "
                + "feed(0, 55); feed(0, 56); feed(0, 57); check(0)");
        answers("3808858755", "feedRow(3, 49, 1, 9); check(3)");
    }

    private static long fed(long number, int value) {
        long changed = number ^ value;
        for (int time = 0; time < 8; time++) {
            changed = changed % 2 == 1 ? changed / 2 ^ CHANGER : changed / 2;
        }
        return changed;
    }

    private void checks() {
        says("Its CHECK: the number CHANGED by 4294967295 (so each bit is the other one): 0 to 4294967295; of a new one "
                + "0.");
        answers("0", "check(0)");
        answers("1", leads(0, 1) + "check(0)");
        answers("2147483647", leads(0, 2147483647L) + "check(0)");
        answers("2147483648", leads(0, 2147483648L) + "check(0)");
        answers("4294967294", leads(0, ALL_ONES - 1) + "check(0)");
        answers("4294967295", leads(0, ALL_ONES) + "check(0)");
        answers("4294967295", "feedOften(0, 255, 4); check(0)");

        says("LOW is the CHECK modulo 65536, HIGH the CHECK / 65536, rounded down.");
        for (long check : new long[] {0, 1, 32767, 32768, 65534, 65535, 65536, 65537, 131071, 131072, 2147483647L,
            2147483648L, 4294901759L, 4294901760L, ALL_ONES}) {
            answers((int) (check % 65536), leads(0, check) + "low(0)");
            answers((int) (check / 65536), leads(0, check) + "high(0)");
        }

        says("HEX of a CHECK: eight digits of 0 to 9 and a to f, the highest one first.");
        answers("00000000", "hex(0)");
        answers("01234567", leads(0, 0x01234567L) + "hex(0)");
        answers("89abcdef", leads(0, 0x89abcdefL) + "hex(0)");
        answers("ffffffff", leads(0, ALL_ONES) + "hex(0)");
        answers("0000000a", leads(0, 10) + "hex(0)");
        answers("00000009", leads(0, 9) + "hex(0)");
        answers("a0000000", leads(0, 0xa0000000L) + "hex(0)");
        answers("7fffffff", leads(0, 0x7fffffffL) + "hex(0)");
        answers("80000000", leads(0, 0x80000000L) + "hex(0)");
    }

    private void texts() {
        says("There are TEXTS 0 to 5, each a row of at most 24 BYTES (none at first).");
        for (int text = 0; text < 6; text++) {
            Run run = run();
            run.same(run.call("length", text), 0);
            for (int length = 1; length <= 24; length++) {
                run.same(run.call("type", text, 300 - length), length);
            }
            Object before = run.call("digest");
            run.same(run.call("type", text, 1), STATE);
            run.same(run.call("typeRow", text, 1, 1, 1), STATE);
            run.same(run.call("typeCheck", text, 0), STATE);
            run.same(run.call("digest"), before);
            for (int other = 0; other < 6; other++) {
                run.same(run.call("length", other), other == text ? 24 : 0);
            }
            run.sameState();
        }
        refused(INDEX, FILLED + "length(-1)");
        refused(INDEX, FILLED + "length(6)");

        says("Places are numbered from 0. LENGTH: how many BYTES it has.");
        for (int length = 0; length <= 24; length++) {
            Run run = run();
            for (int place = 0; place < length; place++) {
                run.call("type", 4, 100 + place);
            }
            run.same(run.call("length", 4), length);
            for (int place = 0; place < length; place++) {
                run.same(run.call("byteAt", 4, place), 100 + place);
            }
            run.same(run.call("byteAt", 4, length), INDEX);
            run.same(run.call("byteAt", 4, -1), INDEX);
        }

        says("CHECK of a TEXT: that of a new REGISTER that is fed its BYTES, the first one first.");
        answers("00000000", "hexOf(3)");
        answers("e3069283", "typeRow(3, 49, 1, 9); hexOf(3)");
        answers(true, "typeRow(3, 9, 31, 24); feedRow(2, 9, 31, 24); isCheckOf(3, 2)");
        answers(false, "typeRow(3, 49, 1, 9); feedRow(2, 57, -1, 9); isCheckOf(3, 2)");
        // A register that was fed before is not a new one: it plays no part.
        answers("e3069283", "feedOften(0, 3, 9); feed(1, 1); typeRow(3, 49, 1, 9); hexOf(3)");

        says("BITS of a TEXT are numbered by 8 * place + bit. To FLIP one: it is the other one.");
        for (int bit = 0; bit < 192; bit++) {
            String there = "(0, " + bit / 8 + ", " + bit % 8 + "); ";
            answers(bit, "typeRow(0, 7, 31, 24); flip" + there + "feedText(1, 0); flip" + there + "findFlip(0, 1)");
        }
        answers(0, "type(0, 1); flip(0, 0, 0)");
        answers(1, "type(0, 1); flip(0, 0, 0); flip(0, 0, 0)");
    }

    private void rows() {
        says("A ROW of first, step and many: the numbers first, first + step, .. many of them (as BYTES: their lowest "
                + "eight bits).");
        answers("254 255 0 1", "typeRow(0, 254, 1, 4); bytes(0)");
        answers("1 0 255 254", "typeRow(0, 1, -1, 4); bytes(0)");
        answers("25 182 83 240 141 42 199 100 1 158 59 216 117 18 175 76 233 134 35 192 93 250 151 52",
                "typeRow(0, -999, -99, 24); bytes(0)");
        answers("231 74 173 16 115 214 57 156 255 98 197 40 139 238 81 180 23 122 221 64 163 6 105 204",
                "typeRow(0, 999, 99, 24); bytes(0)");
        answers(true, "feedRow(0, -999, -99, 24); typeRow(0, -999, -99, 24); isCheckOf(0, 0)");
        answers(true, "feedRow(0, 999, 99, 24); typeRow(0, 999, 99, 24); isCheckOf(0, 0)");
        answers(true, "feedRow(0, 5, 7, 1); feed(1, 5); areLike(0, 1)");
    }

    private void strangers() {
        says("At the counter a stranger asks for a check of what he did not bring: who knocks is REFUSED.");
        answers(0, "house(6)");
        answers(1, "knock(); house(6)");
        answers(2, FILLED + "house(6)");
        // Nobody else is: neither he who asks for a check, nor he whose call throws.
        answers(0, "hex(0); hexOf(0); feedCheck(0, 1); typeCheck(0, 1); isCheckOf(0, 0); check(4); type(6, 0); "
                + "drop(1, 1); house(7); digest(); beginAll(); house(6)");
    }

    private void exceptions() {
        says("A method that throws an exception changes nothing.");
        for (String call : new String[] {"feed(4, 1)", "feedRow(4, 1, 1, 1)", "feedLowFirst(-1, 1)",
            "feedHighFirst(4, 1)", "feedOften(4, 1, 1)", "feedText(4, 0)", "feedText(0, 6)", "feedBackward(4, 0)",
            "feedBackward(0, -1)", "feedPart(4, 0, 0, 1)", "feedPart(0, 6, 0, 0)", "feedCheck(0, 4)", "feedCheck(4, 0)",
            "begin(4)", "type(6, 1)", "typeRow(6, 1, 1, 1)", "typeCheck(6, 0)", "typeCheck(3, 4)", "flip(6, 0, 0)",
            "flip(1, 9, 0)", "flip(1, 0, 8)", "set(6, 0, 0)", "set(1, 9, 0)", "drop(6, 1)", "wipe(6)", "join(6, 1, 2)",
            "join(1, 6, 2)", "join(1, 2, 6)", "change(6, 1, 1)", "change(1, 6, 1)", "change(1, 1, 6)", "copy(6, 1)",
            "copy(1, 6)", "low(4)", "high(4)", "hex(4)", "check(4)", "hasBit(4, 0)", "hasBit(0, 32)", "byteOf(4, 0)",
            "byteOf(0, 4)", "ones(4)", "had(4)", "areLike(4, 0)", "areLike(0, 4)", "apart(4, 0)", "apart(0, 4)",
            "compare(4, 0)", "compare(0, 4)", "length(6)", "byteAt(6, 0)", "byteAt(1, 9)", "bytes(6)", "hexOf(6)",
            "lowOf(6)", "isCheckOf(6, 0)", "isCheckOf(0, 4)", "hexFlipped(6, 0, 0)", "hexFlipped(1, 9, 0)",
            "hexFlipped(1, 0, 8)", "flips(6)", "findFlip(6, 0)", "findFlip(0, 4)", "evenOnes(6)", "apartOf(6, 0)",
            "apartOf(0, 6)", "hexJoined(6, 0)", "hexJoined(0, 6)"}) {
            refused(INDEX, FILLED + call);
        }
        for (String call : new String[] {"feedRow(0, 1000, 1, 1)", "feedRow(0, 1, 100, 1)", "feedRow(0, 1, 1, 25)",
            "feedOften(0, 1, 100)", "feedPart(0, 1, 0, 10)", "feedPart(0, 1, 5, 4)", "typeRow(1, 1000, 1, 1)",
            "typeRow(1, 1, 100, 1)", "typeRow(1, 1, 1, 25)", "drop(1, 10)", "drop(1, 0)", "house(7)"}) {
            refused(ARGUMENT, FILLED + call);
        }
        for (String call : new String[] {"type(0, 1)", "typeRow(1, 1, 1, 16)", "typeRow(5, 1, 1, 2)",
            "typeCheck(0, 0)", "typeCheck(5, 0)", "join(0, 1, 0)", "join(0, 1, 1)", "join(0, 1, 2)", "change(0, 1, 0)",
            "change(0, 1, 1)", "change(0, 1, 2)"}) {
            refused(STATE, FILLED + call);
        }
    }

    private void namedFirst() {
        says("If several exceptions apply, the one that is named first is thrown.");
        for (String call : new String[] {"feedRow(4, 1000, 0, 1)", "feedRow(-1, 0, -100, 1)", "feedRow(4, 0, 0, 25)",
            "feedOften(4, 0, 0)", "feedOften(-1, 0, 100)", "feedPart(4, 1, 0, 10)", "feedPart(0, 6, 0, 1)",
            "feedPart(-1, -1, 1, 0)", "feedPart(0, -1, -1, 0)", "typeRow(6, 1000, 0, 1)", "typeRow(6, 0, 100, 1)",
            "typeRow(-1, 0, 0, 0)", "typeRow(-1, 0, 0, 24)", "typeCheck(0, 4)", "typeCheck(0, -1)", "typeCheck(6, 0)",
            "drop(6, 0)", "drop(-1, 25)", "join(0, 1, 6)", "join(0, 1, -1)", "join(0, 6, 1)", "join(6, 0, 1)",
            "change(0, 1, 6)", "change(0, 1, -1)", "change(0, 6, 1)", "change(-1, 0, 1)"}) {
            refused(INDEX, FILLED + call);
        }
        for (String call : new String[] {"typeRow(0, 1000, 0, 1)", "typeRow(0, -1000, 0, 1)", "typeRow(0, 0, 100, 1)",
            "typeRow(0, 0, -100, 1)", "typeRow(0, 0, 0, 25)", "typeRow(0, 0, 0, 0)", "typeRow(1, 0, 0, 25)",
            "typeRow(1, 1000, 0, 16)"}) {
            refused(ARGUMENT, FILLED + call);
        }
    }

    private void calls() {
        says("An object is used for at most 512 calls after it has been made;");
        Run fed = run();
        while (fed.left() > Run.CALLS_OF_STATE + 2) {
            fed.call("feedOften", 3, fed.left(), 99);
        }
        fed.same(fed.call("had", 3), 495 * 99);
        fed.same(fed.call("house", 1), 495 * 99);
        fed.sameState();
        Run knocked = run();
        while (knocked.left() > 1) {
            knocked.call("knock");
        }
        knocked.same(knocked.call("knock"), 512);
        Run typed = run();
        while (typed.left() > Run.CALLS_OF_STATE + 2) {
            typed.call("type", 5, typed.left());
            typed.call("feedText", 0, 5);
            typed.call(typed.left() % 5 == 0 ? "wipe" : "length", 5);
        }
        typed.sameState();
        Run asked = run();
        asked.calls(FILLED);
        while (asked.left() > 0) {
            asked.call("digest");
        }

        // Nothing is to be asked of what is free.
        says("what later calls answer is free.");
    }
}
