/** Promises 24 to 34: what registers tell. */
final class RegistersPart extends Part {
    private static final long GREATEST = 4294967295L;
    /** Where an int's sign or a half's or a byte's end may lead astray. */
    private static final long[] CHECKS = {0, 1, 9, 10, 99, 255, 256, 32767, 32768, 65535, 65536, 16777215, 16777216,
        2147483647L, 2147483648L, 2147483649L, 3000000000L, 4294967290L, 4294967294L, GREATEST};

    RegistersPart(Due due, Book book) {
        super(due, book);
    }

    @Override
    void test() {
        promise24low();
        promise25high();
        promise26hex();
        promise27check();
        promise28hasBit();
        promise29byteOf();
        promise30ones();
        promise31had();
        promise32areLike();
        promise33apart();
        promise34compare();
    }

    private void registerIsNot0to3(String name) {
        says("Throws `IndexOutOfBoundsException` if register is not 0 to 3");
        range(INDEX, 0, 3, FILLED + name + "(#)");
    }

    private void registerAndOther(String name) {
        says("Throws `IndexOutOfBoundsException` if register is not 0 to 3, or other is not");
        range(INDEX, 0, 3, FILLED + name + "(#, 0)");
        range(INDEX, 0, 3, FILLED + name + "(0, #)");
    }

    private void promise24low() {
        section(24);
        says("Returns LOW.");
        for (long check : CHECKS) {
            answers((int) (check % 65536), leads(1, check) + "low(1)");
        }
        answers(0, "low(3)");

        registerIsNot0to3("low");
    }

    private void promise25high() {
        section(25);
        says("Returns HIGH.");
        for (long check : CHECKS) {
            answers((int) (check / 65536), leads(1, check) + "high(1)");
        }
        answers(0, "high(3)");

        registerIsNot0to3("high");
    }

    private void promise26hex() {
        section(26);
        says("Returns HEX of its CHECK.");
        for (long check : CHECKS) {
            answers(Model.hexOf(check), leads(1, check) + "hex(1)");
        }
        answers("00000000", "hex(3)");
        answers("e3069283", FILLED + "hex(0)");

        registerIsNot0to3("hex");
    }

    private void promise27check() {
        section(27);
        says("Returns its CHECK as a text of digits.");
        for (long check : CHECKS) {
            answers(Long.toString(check), leads(1, check) + "check(1)");
        }
        answers("0", "check(3)");
        answers("3808858755", FILLED + "check(0)");

        registerIsNot0to3("check");
    }

    private void promise28hasBit() {
        section(28);
        says("Returns whether that bit of its CHECK is 1.");
        for (int bit = 0; bit < 32; bit++) {
            answers(true, leads(1, 1L << bit) + "hasBit(1, " + bit + ")");
            answers(false, leads(1, GREATEST ^ 1L << bit) + "hasBit(1, " + bit + ")");
            answers(false, "hasBit(1, " + bit + ")");
        }

        says("Throws `IndexOutOfBoundsException` if register is not 0 to 3, or bit is not 0 to 31");
        range(INDEX, 0, 3, FILLED + "hasBit(#, 0)");
        range(INDEX, 0, 31, FILLED + "hasBit(0, #)");
    }

    private void promise29byteOf() {
        section(29);
        says("- `place`: 0 for the lowest BYTE of its CHECK, to 3");
        says("Returns that BYTE.");
        int[] bytes = {131, 146, 6, 227};
        for (int place = 0; place < 4; place++) {
            answers(bytes[place], FILLED + "byteOf(0, " + place + ")");
            answers(0, "byteOf(0, " + place + ")");
            answers(255, leads(1, 255L << 8 * place) + "byteOf(1, " + place + ")");
            answers(0, leads(1, GREATEST ^ 255L << 8 * place) + "byteOf(1, " + place + ")");
            answers(128, leads(1, 128L << 8 * place) + "byteOf(1, " + place + ")");
        }

        says("Throws `IndexOutOfBoundsException` if register is not 0 to 3, or place is not 0 to 3");
        range(INDEX, 0, 3, FILLED + "byteOf(#, 0)");
        range(INDEX, 0, 3, FILLED + "byteOf(0, #)");
    }

    private void promise30ones() {
        section(30);
        says("Returns how many bits of its CHECK are 1.");
        for (long check : CHECKS) {
            answers(Long.bitCount(check), leads(1, check) + "ones(1)");
        }
        answers(0, "ones(3)");
        answers(11, "feed(3, 1); ones(3)");

        registerIsNot0to3("ones");
    }

    private void promise31had() {
        section(31);
        says("Returns HAD.");
        answers(0, "had(3)");
        answers(1, "feed(3, 0); had(3)");
        answers(2, "feedOften(3, 0, 2); had(3)");
        answers(297, "feedOften(3, 0, 99); feedOften(3, 0, 99); feedOften(3, 0, 99); had(3)");
        answers(0, "typeRow(0, 1, 1, 24); had(3)");
        answers(4, leads(3, 0) + "had(3)");

        registerIsNot0to3("had");
    }

    private void promise32areLike() {
        section(32);
        says("Returns whether both CHECKS are the same.");
        answers(true, "areLike(2, 3)");
        answers(true, "feed(2, 9); areLike(2, 2)");
        answers(false, "feed(2, 9); areLike(2, 3)");
        for (int bit = 0; bit < 32; bit++) {
            answers(false, leads(0, 1L << bit) + "areLike(0, 1)");
        }
        answers(false, leads(0, GREATEST) + "areLike(0, 1)");
        // HAD is no part of a check.
        answers(true, leads(0, 0) + "areLike(0, 1)");
        answers(true, "feedOften(0, 9, 9); feedCheck(0, 0); feedCheck(1, 1); areLike(0, 1)");

        registerAndOther("areLike");
    }

    private void promise33apart() {
        section(33);
        says("Returns at how many bits their CHECKS are unlike.");
        answers(0, "apart(2, 3)");
        answers(0, "feed(2, 9); apart(2, 2)");
        answers(11, "feed(2, 1); apart(2, 3)");
        answers(11, "feed(2, 1); apart(3, 2)");
        answers(32, leads(0, GREATEST) + "apart(0, 1)");
        answers(32, leads(0, 0xaaaaaaaaL) + leads(1, 0x55555555L) + "apart(0, 1)");
        answers(1, leads(0, 2147483648L) + "apart(0, 1)");
        answers(0, leads(0, 0) + "apart(0, 1)");

        registerAndOther("apart");
    }

    private void promise34compare() {
        section(34);
        says("Returns 1 if its CHECK is the greater one, -1 if the less one, 0 if both are the same.");
        for (long check : CHECKS) {
            for (long other : CHECKS) {
                answers(Long.compare(check, other), leads(0, check) + leads(1, other) + "compare(0, 1)");
            }
        }
        answers(0, "compare(2, 3)");
        answers(0, "feed(2, 9); compare(2, 2)");

        registerAndOther("compare");
    }
}
