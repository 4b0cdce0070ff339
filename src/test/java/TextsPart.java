import java.util.ArrayList;
import java.util.List;

/** Promises 35 to 46: what texts tell. */
final class TextsPart extends Part {
    private static final long GREATEST = 4294967295L;
    private static final long[] CHECKS = {0, 1, 10, 32768, 65535, 65536, 2147483647L, 2147483648L, GREATEST};
    private static final String NINE = "typeRow(4, 49, 1, 9); ";
    private static final String FULL = "typeRow(4, 7, 31, 24); ";

    TextsPart(Due due, Book book) {
        super(due, book);
    }

    @Override
    void test() {
        promise35length();
        promise36byteAt();
        promise37bytes();
        promise38hexOf();
        promise39lowOf();
        promise40isCheckOf();
        promise41hexFlipped();
        promise42flips();
        promise43findFlip();
        promise44evenOnes();
        promise45apartOf();
        promise46hexJoined();
    }

    private void textIsNot0to5(String name) {
        says("Throws `IndexOutOfBoundsException` if text is not 0 to 5");
        range(INDEX, 0, 5, FILLED + name + "(#)");
    }

    private void textAndRegister(String name) {
        says("Throws `IndexOutOfBoundsException` if text is not 0 to 5, or register is not 0 to 3");
        range(INDEX, 0, 5, FILLED + name + "(#, 0)");
        range(INDEX, 0, 3, FILLED + name + "(1, #)");
    }

    private void oneAndOther(String name) {
        says("Throws `IndexOutOfBoundsException` if one or other is not 0 to 5");
        range(INDEX, 0, 5, FILLED + name + "(#, 1)");
        range(INDEX, 0, 5, FILLED + name + "(1, #)");
    }

    private static String typed(int text, int many) {
        return many == 0 ? "" : "typeRow(" + text + ", " + 10 * text + ", 7, " + many + "); ";
    }

    private void promise35length() {
        section(35);
        says("Returns LENGTH.");
        for (int many = 0; many <= 24; many++) {
            answers(many, typed(3, many) + "length(3)");
        }
        answers(0, FULL + "wipe(4); length(4)");
        answers(0, FULL + "length(3)");

        textIsNot0to5("length");
    }

    private void promise36byteAt() {
        section(36);
        says("Returns the BYTE there.");
        answers(49, NINE + "byteAt(4, 0)");
        answers(57, NINE + "byteAt(4, 8)");
        answers(7, FULL + "byteAt(4, 0)");
        answers(208, FULL + "byteAt(4, 23)");
        answers(255, "type(4, -1); byteAt(4, 0)");
        answers(0, "type(4, 256); byteAt(4, 0)");

        says("Throws `IndexOutOfBoundsException` if text is not 0 to 5, or place not 0 to LENGTH - 1");
        range(INDEX, 0, 5, FILLED + "type(3, 1); type(4, 1); byteAt(#, 0)");
        range(INDEX, 0, 8, NINE + "byteAt(4, #)");
        range(INDEX, 0, 23, FULL + "byteAt(4, #)");
        range(INDEX, 0, 0, "type(4, 9); byteAt(4, #)");
        refused(INDEX, "byteAt(4, 0)");
        refused(INDEX, "byteAt(4, -1)");
        refused(INDEX, NINE + "drop(4, 1); byteAt(4, 8)");
        refused(INDEX, NINE + "wipe(4); byteAt(4, 0)");
    }

    private void promise37bytes() {
        section(37);
        says("Returns its BYTES, with one blank between; \"\" without.");
        answers("", "bytes(5)");
        answers("", FULL + "wipe(4); bytes(4)");
        answers("0", "type(5, 0); bytes(5)");
        answers("255", "type(5, 255); bytes(5)");
        answers("0 255 7", "type(5, 0); type(5, 255); type(5, 7); bytes(5)");
        answers("7 38 69 100 131 162 193 224 255 30 61 92 123 154 185 216 247 22 53 84 115 146 177 208",
                FULL + "bytes(4)");

        textIsNot0to5("bytes");
    }

    private void promise38hexOf() {
        section(38);
        says("Returns HEX of its CHECK.");
        answers("00000000", "hexOf(5)");
        answers("e3069283", NINE + "hexOf(4)");
        for (long check : CHECKS) {
            answers(Model.hexOf(check), leadsText(2, check) + "hexOf(2)");
        }
        for (int many = 0; many <= 24; many++) {
            run().calls(typed(3, many) + "hexOf(3)");
        }

        textIsNot0to5("hexOf");
    }

    private void promise39lowOf() {
        section(39);
        says("Returns its CHECK modulo 65536.");
        answers(0, "lowOf(5)");
        answers(37507, NINE + "lowOf(4)");
        for (long check : CHECKS) {
            answers((int) (check % 65536), leadsText(2, check) + "lowOf(2)");
        }

        textIsNot0to5("lowOf");
    }

    private void promise40isCheckOf() {
        section(40);
        says("Returns whether its CHECK is that of the REGISTER.");
        answers(true, "isCheckOf(5, 3)");
        answers(true, NINE + "feedRow(0, 49, 1, 9); isCheckOf(4, 0)");
        answers(true, FULL + "feedText(0, 4); isCheckOf(4, 0)");
        answers(false, NINE + "isCheckOf(4, 3)");
        answers(false, "feed(3, 0); isCheckOf(5, 3)");
        for (int bit = 0; bit < 32; bit++) {
            answers(false, leads(0, 1L << bit) + "isCheckOf(5, 0)");
        }
        // A check is the same, whatever BYTES led there and how many.
        answers(true, leads(0, 0) + "isCheckOf(5, 0)");
        answers(true, leadsText(2, 0) + "isCheckOf(2, 0)");
        answers(true, "type(2, 1); feed(0, 1); typeCheck(2, 0); feedCheck(1, 1); isCheckOf(2, 1)");

        textAndRegister("isCheckOf");
    }

    private void promise41hexFlipped() {
        section(41);
        says("Returns HEX of the CHECK that it would have with that bit FLIPPED.");
        for (int bit = 0; bit < 192; bit++) {
            String there = "(4, " + bit / 8 + ", " + bit % 8 + "); ";
            Run run = run();
            run.calls(FULL);
            Object told = run.calls("hexFlipped" + there);
            run.sameState();
            run.calls("flip" + there);
            run.same(run.calls("hexOf(4)"), told);
        }
        for (int many = 1; many <= 24; many++) {
            for (int bit = 0; bit < 8; bit++) {
                run().calls(typed(3, many) + "hexFlipped(3, 0, " + bit + "); hexFlipped(3, " + (many - 1) + ", " + bit
                        + ")");
            }
        }
        answers("a016d052", "type(3, 129); hexFlipped(3, 0, 7)");

        says("Throws `IndexOutOfBoundsException` if text is not 0 to 5, place not 0 to LENGTH - 1, or bit not 0 to 7");
        range(INDEX, 0, 5, FILLED + "type(3, 1); type(4, 1); hexFlipped(#, 0, 0)");
        range(INDEX, 0, 8, NINE + "hexFlipped(4, #, 0)");
        range(INDEX, 0, 23, FULL + "hexFlipped(4, #, 7)");
        range(INDEX, 0, 7, NINE + "hexFlipped(4, 0, #)");
        range(INDEX, 0, 7, FULL + "hexFlipped(4, 23, #)");
        refused(INDEX, "hexFlipped(4, 0, 0)");
        refused(INDEX, "hexFlipped(4, -1, 0)");
        refused(INDEX, NINE + "drop(4, 1); hexFlipped(4, 8, 0)");
    }

    private void promise42flips() {
        section(42);
        says("Returns how many unlike CHECKS there are among its own and those with one bit FLIPPED.");
        for (int many = 0; many <= 24; many++) {
            answers(1 + 8 * many, typed(3, many) + "flips(3)");
        }
        answers(193, "typeRow(3, 0, 0, 24); flips(3)");
        answers(193, "typeRow(3, 255, 0, 24); flips(3)");
        answers(193, FULL + "flips(4); flips(4)");
        answers(1, FULL + "flips(4); flips(3)");
        for (long check : CHECKS) {
            answers(33, leadsText(2, check) + "flips(2)");
        }

        textIsNot0to5("flips");
    }

    private void promise43findFlip() {
        section(43);
        says("Returns the first BIT which FLIPPED gives the TEXT the CHECK of the REGISTER; -2 if it has it as it is; "
                + "NONE without one.");
        for (int many = 0; many <= 24; many++) {
            answers(-2, typed(3, many) + "feedText(1, 3); findFlip(3, 1)");
            answers(-1, typed(3, many) + twoFlipped(many) + "findFlip(3, 1)");
            int bits = 8 * many;
            for (int bit : new int[] {0, 7, 8, bits - 9, bits - 8, bits - 1}) {
                if (bit >= 0 && bit < bits) {
                    String there = "(3, " + bit / 8 + ", " + bit % 8 + "); ";
                    answers(bit, typed(3, many) + "flip" + there + "feedText(1, 3); flip" + there + "findFlip(3, 1)");
                }
            }
            // A bit ahead of its first one would give the check, but is none of its own.
            long own = Model.check(row(3, many));
            for (int ahead = 1; ahead <= 9; ahead++) {
                answers(-1, typed(3, many) + leads(1, own ^ changeByFlip(bits + ahead)) + "findFlip(3, 1)");
            }
        }
        answers(-2, "findFlip(5, 3)");
        answers(-2, leads(3, 0) + "findFlip(5, 3)");
        answers(-1, "feed(3, 0); findFlip(5, 3)");

        textAndRegister("findFlip");
    }

    /** Feeds register 1 with text 3 while two of its bits are flipped: no one bit leads there. */
    private static String twoFlipped(int many) {
        return many == 0 ? "feed(1, 1); " : "flip(3, 0, 0); flip(3, 0, 1); feedText(1, 3); flip(3, 0, 0); flip(3, 0, 1); ";
    }

    private static List<Integer> row(int text, int many) {
        List<Integer> row = new ArrayList<>();
        while (row.size() < many) {
            row.add((10 * text + 7 * row.size()) & 255);
        }
        return row;
    }

    /** By which number a check changes if the bit is flipped that stands so far ahead of a text's end. */
    private static long changeByFlip(int fromEnd) {
        List<Integer> zeros = new ArrayList<>();
        while (8 * zeros.size() < fromEnd) {
            zeros.add(0);
        }
        List<Integer> flipped = new ArrayList<>(zeros);
        int bit = 8 * zeros.size() - fromEnd;
        flipped.set(0, 1 << bit);
        return Model.check(zeros) ^ Model.check(flipped);
    }

    private void promise44evenOnes() {
        section(44);
        says("Returns how many of its beginnings (of the LENGTHS 0 to its own) have a CHECK with an even number of bits "
                + "that are 1.");
        answers(1, "evenOnes(5)");
        answers(1, "type(5, 1); evenOnes(5)");
        answers(5, "typeRow(5, 10, 20, 6); evenOnes(5)");
        for (int many = 0; many <= 24; many++) {
            answers(many + 1, typedLike(many, 0) + "evenOnes(5)");
            answers(1, typedLike(many, 1) + "evenOnes(5)");
        }

        textIsNot0to5("evenOnes");
    }

    /** Types so many bytes that each beginning's check, but for the empty one's, has so many ones modulo 2. */
    private static String typedLike(int many, int ones) {
        StringBuilder calls = new StringBuilder();
        List<Integer> text = new ArrayList<>();
        while (text.size() < many) {
            text.add(17 * text.size() & 255);
            while (Long.bitCount(Model.check(text)) % 2 != ones) {
                text.set(text.size() - 1, text.get(text.size() - 1) + 1 & 255);
            }
            calls.append("type(5, ").append(text.get(text.size() - 1)).append("); ");
        }
        return calls.toString();
    }

    private void promise45apartOf() {
        section(45);
        says("Returns at how many bits the CHECKS of both are unlike.");
        answers(0, "apartOf(4, 5)");
        answers(0, FULL + "apartOf(4, 4)");
        answers(0, FULL + "copy(4, 0); apartOf(4, 0)");
        answers(11, "type(2, 1); apartOf(2, 5)");
        answers(11, "type(2, 1); apartOf(5, 2)");
        answers(32, "typeRow(2, 255, 0, 4); apartOf(2, 5)");
        answers(32, leadsText(2, 0xaaaaaaaaL) + leadsText(3, 0x55555555L) + "apartOf(2, 3)");
        answers(1, leadsText(2, 2147483648L) + "apartOf(2, 5)");
        answers(1, leadsText(2, 1) + "apartOf(2, 5)");
        answers(0, leadsText(2, 0) + "apartOf(2, 5)");

        oneAndOther("apartOf");
    }

    private void promise46hexJoined() {
        section(46);
        says("Returns HEX of the CHECK of both, one behind the other (however long that is).");
        answers("00000000", "hexJoined(4, 5)");
        answers("00000000", "hexJoined(5, 5)");
        answers("e3069283", NINE + "hexJoined(4, 5)");
        answers("e3069283", NINE + "hexJoined(5, 4)");
        answers("e3069283", "typeRow(0, 49, 1, 4); typeRow(1, 53, 1, 5); hexJoined(0, 1)");
        for (int many = 0; many <= 24; many++) {
            for (int more = 0; more <= 24; more++) {
                Run run = run();
                run.calls(typed(2, many) + typed(3, more) + "feedText(0, 2); feedText(0, 3); ");
                run.same(run.calls("hexJoined(2, 3)"), run.calls("hex(0)"));
                run.sameState();
            }
        }
        answers(true, FULL + "hexJoined(4, 4); feedText(0, 4); isCheckOf(4, 0)");
        String twice = FULL + "feedText(0, 4); feedText(0, 4); ";
        Run run = run();
        run.calls(twice);
        run.same(run.calls("hexJoined(4, 4)"), run.calls("hex(0)"));

        oneAndOther("hexJoined");
    }
}
