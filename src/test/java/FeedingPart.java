/** Promises 1 to 13: registers are fed. */
final class FeedingPart extends Part {
    private static final String NINE = "typeRow(4, 49, 1, 9); ";
    private static final String FULL = "typeRow(4, 7, 31, 24); ";
    /** A register that tells 4294967295, of which LOW and HIGH are the greatest that there are. */
    private static final String GREATEST = leads(3, 4294967295L);

    FeedingPart(Due due, Book book) {
        super(due, book);
    }

    @Override
    void test() {
        promise1constructor();
        promise2feed();
        promise3feedRow();
        promise4feedLowFirst();
        promise5feedHighFirst();
        promise6feedOften();
        promise7feedText();
        promise8feedBackward();
        promise9feedPart();
        promise10feedCheck();
        promise11begin();
        promise12beginAll();
        promise13knock();
    }

    private void promise1constructor() {
        section(1);
        says("Creates new registers and empty texts.");
        for (int register = 0; register < 4; register++) {
            answers("0", with("check(#)", register));
            answers(0, with("had(#)", register));
        }
        for (int text = 0; text < 6; text++) {
            answers(0, with("length(#)", text));
            answers("", with("bytes(#)", text));
        }
        answers(0, "house(6)");
        // What one object is told, another one that was made before or is made behind does not hear.
        Run early = run();
        Run told = run();
        told.calls(FILLED);
        told.sameState();
        early.sameState();
        run().sameState();
    }

    private void promise2feed() {
        section(2);
        says("FEEDS a number.");
        answers("e3069283", "feed(2, 49); feed(2, 50); feed(2, 51); feed(2, 52); feed(2, 53); feed(2, 54); "
                + "feed(2, 55); feed(2, 56); feed(2, 57); hex(2)");
        answers(1, "feed(2, -2147483648); had(2)");
        answers(true, "feed(2, 256); feed(1, 0); areLike(1, 2)");
        answers(true, "feed(2, -1); feed(1, 255); areLike(1, 2)");

        says("Returns LOW then.");
        answers(53330, "feed(0, 1)");
        answers(true, GREATEST + "feed(2, 255); feed(2, 255); feed(2, 255); feed(2, 255); areLike(2, 3)");
        answers(65535, "feedOften(2, 255, 3); feed(2, 255)");

        says("Throws `IndexOutOfBoundsException` if register is not 0 to 3");
        range(INDEX, 0, 3, FILLED + "feed(#, 1)");
    }

    private void promise3feedRow() {
        section(3);
        says("FEEDS a ROW.");
        answers(true, "feedRow(0, -3, -99, 4); feed(1, 253); feed(1, 154); feed(1, 55); feed(1, 212); areLike(0, 1)");
        answers(true, "feedRow(0, 200, 99, 3); feed(1, 200); feed(1, 43); feed(1, 142); areLike(0, 1)");
        answers(1, "feedRow(0, 1, 1, 1); had(0)");
        answers(24, "feedRow(0, 1, 1, 24); had(0)");

        says("Returns LOW then.");
        answers(37507, "feedRow(3, 49, 1, 9)");
        answers(65535, "feedRow(3, 255, 0, 4)");
        answers(65535, "feedRow(3, -1, 0, 4)");

        says("Throws `IndexOutOfBoundsException` if register is not 0 to 3");
        range(INDEX, 0, 3, FILLED + "feedRow(#, 1, 1, 1)");

        says("Throws `IllegalArgumentException` if first is not -999 to 999, step not -99 to 99, or many not 1 to 24");
        range(ARGUMENT, -999, 999, "feedRow(0, #, 1, 2)");
        range(ARGUMENT, -99, 99, "feedRow(0, 1, #, 3)");
        range(ARGUMENT, 1, 24, "feedRow(0, 1, 1, #)");
    }

    private void promise4feedLowFirst() {
        section(4);
        says("FEEDS the four BYTES of a number, the lowest one first.");
        fourBytes("feedLowFirst(0, 67305985); ", 1, 2, 3, 4);
        fourBytes("feedLowFirst(0, 0); ", 0, 0, 0, 0);
        fourBytes("feedLowFirst(0, 255); ", 255, 0, 0, 0);
        fourBytes("feedLowFirst(0, 256); ", 0, 1, 0, 0);
        fourBytes("feedLowFirst(0, 65536); ", 0, 0, 1, 0);
        fourBytes("feedLowFirst(0, 16777216); ", 0, 0, 0, 1);
        fourBytes("feedLowFirst(0, 2147483647); ", 255, 255, 255, 127);
        fourBytes("feedLowFirst(0, -2147483648); ", 0, 0, 0, 128);
        fourBytes("feedLowFirst(0, -1); ", 255, 255, 255, 255);
        fourBytes("feedLowFirst(0, -256); ", 0, 255, 255, 255);

        says("Returns LOW then.");
        answers(36084, "feedLowFirst(3, 67305985)");
        answers(65535, "feedLowFirst(3, -1)");

        says("Throws `IndexOutOfBoundsException` if register is not 0 to 3");
        range(INDEX, 0, 3, FILLED + "feedLowFirst(#, 1)");
    }

    private void promise5feedHighFirst() {
        section(5);
        says("FEEDS the four BYTES of a number, the highest one first.");
        fourBytes("feedHighFirst(0, 16909060); ", 1, 2, 3, 4);
        fourBytes("feedHighFirst(0, 0); ", 0, 0, 0, 0);
        fourBytes("feedHighFirst(0, 255); ", 0, 0, 0, 255);
        fourBytes("feedHighFirst(0, 256); ", 0, 0, 1, 0);
        fourBytes("feedHighFirst(0, 65536); ", 0, 1, 0, 0);
        fourBytes("feedHighFirst(0, 16777216); ", 1, 0, 0, 0);
        fourBytes("feedHighFirst(0, 2147483647); ", 127, 255, 255, 255);
        fourBytes("feedHighFirst(0, -2147483648); ", 128, 0, 0, 0);
        fourBytes("feedHighFirst(0, -1); ", 255, 255, 255, 255);
        fourBytes("feedHighFirst(0, -256); ", 255, 255, 255, 0);

        says("Returns LOW then.");
        answers(36084, "feedHighFirst(3, 16909060)");
        answers(65535, "feedHighFirst(3, -1)");

        says("Throws `IndexOutOfBoundsException` if register is not 0 to 3");
        range(INDEX, 0, 3, FILLED + "feedHighFirst(#, 1)");
    }

    private void fourBytes(String call, int... bytes) {
        StringBuilder one = new StringBuilder();
        for (int value : bytes) {
            one.append("feed(1, ").append(value).append("); ");
        }
        answers(true, call + one + "areLike(0, 1)");
        answers(4, call + "had(0)");
        answers(true, call + call + one + one + "areLike(0, 1)");
        answers(8, call + call + "had(0)");
    }

    private void promise6feedOften() {
        section(6);
        says("FEEDS one BYTE again and again.");
        answers(true, "feedOften(0, 261, 3); feed(1, 5); feed(1, 5); feed(1, 5); areLike(0, 1)");
        answers(true, "feedOften(0, -1, 1); feed(1, 255); areLike(0, 1)");
        answers(99, "feedOften(0, 0, 99); had(0)");

        says("Returns LOW then.");
        answers(53330, "feedOften(2, 1, 1)");
        answers(65535, "feedOften(2, 255, 4)");

        says("Throws `IndexOutOfBoundsException` if register is not 0 to 3");
        range(INDEX, 0, 3, FILLED + "feedOften(#, 1, 1)");

        says("Throws `IllegalArgumentException` if many is not 1 to 99");
        range(ARGUMENT, 1, 99, FILLED + "feedOften(0, 1, #)");
    }

    private void promise7feedText() {
        section(7);
        says("FEEDS a TEXT.");
        answers("3808858755", NINE + "feedText(2, 4); check(2)");
        answers("49 50 51 52 53 54 55 56 57", NINE + "feedText(2, 4); bytes(4)");
        answers("0", "feedText(2, 0); check(2)");
        answers("2685849682", "feed(2, 1); feedText(2, 0); check(2)");
        answers(true, FULL + "feedText(2, 4); isCheckOf(4, 2)");

        says("Returns HAD then.");
        answers(0, "feedText(2, 4)");
        answers(1, "feed(2, 1); feedText(2, 4)");
        answers(9, NINE + "feedText(2, 4)");
        answers(18, NINE + "feedText(2, 4); feedText(2, 4)");
        answers(24, FULL + "feedText(2, 4)");

        registersAndTexts("feedText(#, 0)", "feedText(0, #)");
    }

    private void registersAndTexts(String withRegister, String withText) {
        says("Throws `IndexOutOfBoundsException` if register is not 0 to 3, or text is not 0 to 5");
        range(INDEX, 0, 3, FILLED + withRegister);
        range(INDEX, 0, 5, FILLED + withText);
    }

    private void promise8feedBackward() {
        section(8);
        says("FEEDS a TEXT from its last BYTE to its first one.");
        answers(true, NINE + "feedBackward(2, 4); feedRow(1, 57, -1, 9); areLike(1, 2)");
        answers("49 50 51 52 53 54 55 56 57", NINE + "feedBackward(2, 4); bytes(4)");
        answers(true, FULL + "feedBackward(2, 4); feedRow(1, 720, -31, 24); areLike(1, 2)");
        answers("2685849682", "type(4, 1); feedBackward(2, 4); check(2)");
        answers("0", "feedBackward(2, 0); check(2)");

        says("Returns HAD then.");
        answers(0, "feedBackward(2, 4)");
        answers(1, "feed(2, 1); feedBackward(2, 4)");
        answers(9, NINE + "feedBackward(2, 4)");
        answers(24, FULL + "feedBackward(2, 4)");

        registersAndTexts("feedBackward(#, 0)", "feedBackward(0, #)");
    }

    private void promise9feedPart() {
        section(9);
        says("FEEDS some BYTES of a TEXT.");
        says("- `from`: the first place");
        says("- `to`: the place behind the last one");
        for (int from = 0; from <= 9; from++) {
            for (int to = from; to <= 9; to++) {
                String row = from == to ? "" : "feedRow(1, " + (49 + from) + ", 1, " + (to - from) + "); ";
                answers(true, NINE + "feedPart(0, 4, " + from + ", " + to + "); " + row + "areLike(0, 1)");
            }
        }
        answers("3808858755", NINE + "feedPart(0, 4, 0, 9); check(0)");
        answers("49 50 51 52 53 54 55 56 57", NINE + "feedPart(0, 4, 2, 5); bytes(4)");
        answers(true, FULL + "feedPart(0, 4, 0, 24); isCheckOf(4, 0)");
        answers(true, FULL + "feedPart(0, 4, 23, 24); feed(1, 720); areLike(0, 1)");

        says("Returns HAD then.");
        answers(3, NINE + "feedPart(0, 4, 1, 4)");
        answers(4, NINE + "feed(0, 1); feedPart(0, 4, 1, 4)");
        answers(0, NINE + "feedPart(0, 4, 0, 0)");
        answers(0, NINE + "feedPart(0, 4, 9, 9)");
        answers(1, NINE + "feed(0, 1); feedPart(0, 4, 5, 5)");
        answers(0, "feedPart(0, 4, 0, 0)");
        answers(24, FULL + "feedPart(0, 4, 0, 24)");

        registersAndTexts("feedPart(#, 1, 0, 1)", "feedPart(0, #, 0, 0)");

        says("Throws `IllegalArgumentException` if from or to is not 0 to LENGTH, or from is greater than to");
        range(ARGUMENT, 0, 9, NINE + "feedPart(0, 4, #, 9)");
        range(ARGUMENT, 0, 9, NINE + "feedPart(0, 4, 0, #)");
        range(ARGUMENT, 0, 4, NINE + "feedPart(0, 4, #, 4)");
        range(ARGUMENT, 4, 9, NINE + "feedPart(0, 4, 4, #)");
        range(ARGUMENT, 9, 9, NINE + "feedPart(0, 4, 9, #)");
        range(ARGUMENT, 0, 0, NINE + "feedPart(0, 4, #, 0)");
        range(ARGUMENT, 0, 24, FULL + "feedPart(0, 4, 0, #)");
        range(ARGUMENT, 0, 24, FULL + "feedPart(0, 4, #, 24)");
        range(ARGUMENT, 0, 0, "feedPart(0, 4, 0, #)");
        range(ARGUMENT, 0, 0, "feedPart(0, 4, #, 0)");
        refused(ARGUMENT, NINE + "feedPart(0, 4, 10, 10)");
        refused(ARGUMENT, NINE + "feedPart(0, 4, -1, -1)");
        refused(ARGUMENT, NINE + "feedPart(0, 4, -1, 10)");
        refused(ARGUMENT, NINE + "feedPart(0, 4, -2147483648, 2147483647)");
        refused(ARGUMENT, NINE + "feedPart(0, 4, 2147483647, -2147483648)");
    }

    private void promise10feedCheck() {
        section(10);
        says("FEEDS the four BYTES of a CHECK (as it is ahead of that), the lowest one first.");
        says("- `other`: the REGISTER that tells it (perhaps the same)");
        answers(true, "feedRow(0, 49, 1, 9); feedCheck(1, 0); feed(2, 131); feed(2, 146); feed(2, 6); feed(2, 227); "
                + "areLike(1, 2)");
        answers("3808858755", "feedRow(0, 49, 1, 9); feedCheck(1, 0); check(0)");
        answers(9, "feedRow(0, 49, 1, 9); feedCheck(1, 0); had(0)");
        answers(4, "feedRow(0, 49, 1, 9); feedCheck(1, 0); had(1)");
        answers(true, "feedCheck(1, 0); feedOften(2, 0, 4); areLike(1, 2)");
        answers(true, GREATEST + "feedCheck(1, 3); feedOften(2, 255, 4); areLike(1, 2)");
        for (int register = 0; register < 4; register++) {
            answers("1214729159", FILLED + with("feedCheck(#, #); check(#)", register));
        }
        answers(13, "feedRow(0, 49, 1, 9); feedCheck(0, 0); had(0)");
        answers(8, "feedCheck(0, 0); feedCheck(0, 1); had(0)");

        says("Returns LOW then.");
        answers(19399, "feedCheck(0, 0)");
        answers(19399, "feedRow(0, 49, 1, 9); feedCheck(0, 0)");
        answers(65535, GREATEST + "feedCheck(0, 3)");

        says("Throws `IndexOutOfBoundsException` if register is not 0 to 3, or other is not");
        range(INDEX, 0, 3, FILLED + "feedCheck(#, 0)");
        range(INDEX, 0, 3, FILLED + "feedCheck(0, #)");
    }

    private void promise11begin() {
        section(11);
        says("Begins a REGISTER again.");
        answers("0", "feedRow(0, 49, 1, 9); begin(0); check(0)");
        answers(0, "feedRow(0, 49, 1, 9); begin(0); had(0)");
        answers("3808858755", "feedRow(0, 49, 1, 9); feedRow(1, 49, 1, 9); begin(0); check(1)");
        answers("3808858755", "feed(0, 1); begin(0); feedRow(0, 49, 1, 9); check(0)");
        answers("0", "begin(0); check(0)");

        says("Returns HAD before.");
        answers(9, "feedRow(0, 49, 1, 9); begin(0)");
        answers(0, "begin(0)");
        answers(0, "feedRow(0, 49, 1, 9); begin(0); begin(0)");
        answers(198, "feedOften(0, 1, 99); feedOften(0, 1, 99); begin(0)");

        says("Throws `IndexOutOfBoundsException` if register is not 0 to 3");
        range(INDEX, 0, 3, FILLED + "begin(#)");
    }

    private void promise12beginAll() {
        section(12);
        says("Begins all again.");
        for (int register = 0; register < 4; register++) {
            answers("0", FILLED + with("feed(2, 1); beginAll(); check(#)", register));
            answers(0, FILLED + with("feed(2, 1); beginAll(); had(#)", register));
        }
        answers(24, FILLED + "beginAll(); length(0)");
        answers(2, FILLED + "beginAll(); house(6)");

        says("Returns how many REGISTERS had HAD above 0.");
        answers(0, "beginAll()");
        answers(3, FILLED + "beginAll()");
        answers(0, FILLED + "beginAll(); beginAll()");
        answers(4, FILLED + "feed(2, 1); beginAll()");
        for (int register = 0; register < 4; register++) {
            answers(1, with("feed(#, 0); beginAll()", register));
        }
        // A register that tells the check of a new one has HAD above 0 all the same.
        answers(1, leads(0, 0) + "beginAll()");
    }

    private void promise13knock() {
        section(13);
        says("Knocks.");
        answers(1, "knock(); house(6)");
        answers(0, "knock(); knock(); had(0)");

        says("Returns how many were REFUSED ever, with this.");
        answers(1, "knock()");
        answers(2, "knock(); knock()");
        answers(3, FILLED + "beginAll(); wipe(0); digest(); knock()");
        answers(3, FILLED + "feed(4, 0); type(0, 1); house(7); knock()");
    }
}
