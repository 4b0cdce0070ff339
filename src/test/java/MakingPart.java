/** Promises 14 to 23: texts are made. */
final class MakingPart extends Part {
    private static final String FULL = "typeRow(4, 7, 31, 24); ";
    private static final String BYTES_OF_FULL = "7 38 69 100 131 162 193 224 255 30 61 92 123 154 185 216 247 22 53 84 "
            + "115 146 177 208";
    private static final String THREE = "typeRow(4, 10, 10, 3); ";

    MakingPart(Due due, Book book) {
        super(due, book);
    }

    @Override
    void test() {
        promise14type();
        promise15typeRow();
        promise16typeCheck();
        promise17flip();
        promise18set();
        promise19drop();
        promise20wipe();
        promise21join();
        promise22change();
        promise23copy();
    }

    private static String typed(int text, int first, int many) {
        return many == 0 ? "" : "typeRow(" + text + ", " + first + ", 1, " + many + "); ";
    }

    private void promise14type() {
        section(14);
        says("Types a BYTE behind a TEXT.");
        answers("44 255", "type(5, 300); type(5, -1); bytes(5)");
        answers("0", "type(5, -2147483648); bytes(5)");
        answers("10 20 30 9", THREE + "type(4, 9); bytes(4)");
        answers("", THREE + "type(4, 9); bytes(3)");

        says("Returns LENGTH then.");
        answers(1, "type(5, 0)");
        answers(4, THREE + "type(4, 9)");
        answers(24, typed(4, 0, 23) + "type(4, 9)");

        textIsNot0to5("type(#, 1)");

        says("Throws `IllegalStateException` if it has 24");
        refused(STATE, FULL + "type(4, 9)");
        refused(STATE, typed(4, 0, 23) + "type(4, 9); type(4, 9)");
        answers(24, FULL + "drop(4, 1); type(4, 9)");
        answers(24, FULL + "type(4, 9); length(4)");
        answers(1, FULL + "type(3, 9)");
    }

    private void textIsNot0to5(String call) {
        says("Throws `IndexOutOfBoundsException` if text is not 0 to 5");
        // Text 0 is full there, so that a method that needs room begins with empty ones.
        range(INDEX, 0, 5, (call.startsWith("type") ? "" : FILLED + "type(3, 1); type(4, 1); ") + call);
    }

    private void promise15typeRow() {
        section(15);
        says("Types a ROW behind a TEXT.");
        answers("250 253 0 3", "typeRow(0, 250, 3, 4); bytes(0)");
        answers("1 255 253 251", "typeRow(0, 1, -2, 4); bytes(0)");
        answers("10 20 30 7 7", THREE + "typeRow(4, 7, 0, 2); bytes(4)");
        answers(BYTES_OF_FULL, FULL + "bytes(4)");

        says("Returns LENGTH then.");
        answers(1, "typeRow(4, 0, 0, 1)");
        answers(5, THREE + "typeRow(4, 7, 0, 2)");
        answers(24, FULL + "length(4)");
        answers(24, THREE + "typeRow(4, 7, 0, 21)");

        textIsNot0to5("typeRow(#, 1, 1, 1)");

        says("Throws `IllegalArgumentException` if first is not -999 to 999, step not -99 to 99, or many not 1 to 24");
        range(ARGUMENT, -999, 999, "typeRow(0, #, 1, 2)");
        range(ARGUMENT, -99, 99, "typeRow(0, 1, #, 3)");
        range(ARGUMENT, 1, 24, "typeRow(0, 1, 1, #)");

        says("Throws `IllegalStateException` if it would have more than 24");
        for (int has = 1; has <= 24; has++) {
            int room = 24 - has;
            refused(STATE, typed(4, 0, has) + "typeRow(4, 9, 9, " + (room + 1) + ")");
            if (room > 0) {
                answers(24, typed(4, 0, has) + "typeRow(4, 9, 9, " + room + ")");
            }
        }
        refused(STATE, FULL + "typeRow(4, 9, 9, 24)");
    }

    private void promise16typeCheck() {
        section(16);
        says("Types the four BYTES of a CHECK behind a TEXT, the lowest one first.");
        answers("131 146 6 227", "feedRow(0, 49, 1, 9); typeCheck(2, 0); bytes(2)");
        answers("0 0 0 0", "typeCheck(2, 0); bytes(2)");
        answers("255 255 255 255", "feedOften(3, 255, 4); typeCheck(2, 3); bytes(2)");
        answers("1 0 0 128", leads(1, 2147483649L) + "typeCheck(2, 1); bytes(2)");
        answers("10 20 30 131 146 6 227", THREE + "feedRow(0, 49, 1, 9); typeCheck(4, 0); bytes(4)");
        answers(9, "feedRow(0, 49, 1, 9); typeCheck(2, 0); had(0)");
        answers("3808858755", "feedRow(0, 49, 1, 9); typeCheck(2, 0); check(0)");

        says("Returns LENGTH then.");
        answers(4, "typeCheck(2, 0)");
        answers(7, THREE + "typeCheck(4, 0)");
        answers(24, typed(4, 0, 20) + "typeCheck(4, 0)");

        says("Throws `IndexOutOfBoundsException` if text is not 0 to 5, or register is not 0 to 3");
        range(INDEX, 0, 5, "feed(0, 1); typeCheck(#, 0)");
        range(INDEX, 0, 3, FILLED + "typeCheck(3, #)");

        says("Throws `IllegalStateException` if it would have more than 24");
        answers(23, typed(4, 0, 19) + "typeCheck(4, 0)");
        for (int has = 21; has <= 24; has++) {
            refused(STATE, "feedRow(0, 49, 1, 9); " + typed(4, 0, has) + "typeCheck(4, 0)");
        }
    }

    private void promise17flip() {
        section(17);
        says("FLIPS a bit.");
        answers("11 20 30", THREE + "flip(4, 0, 0); bytes(4)");
        answers("10 20 158", THREE + "flip(4, 2, 7); bytes(4)");
        answers("10 4 30", THREE + "flip(4, 1, 4); bytes(4)");
        answers("10 20 30", THREE + "flip(4, 1, 4); flip(4, 1, 4); bytes(4)");

        says("Returns the BYTE then.");
        answers(11, THREE + "flip(4, 0, 0)");
        answers(4, THREE + "flip(4, 1, 4)");
        answers(158, THREE + "flip(4, 2, 7)");
        answers(255, "type(0, 127); flip(0, 0, 7)");
        answers(127, "type(0, 255); flip(0, 0, 7)");
        answers(0, "type(0, 1); flip(0, 0, 0)");

        says("Throws `IndexOutOfBoundsException` if text is not 0 to 5, place not 0 to LENGTH - 1, or bit not 0 to 7");
        placeAndBit("flip");
    }

    private void placeAndBit(String name) {
        range(INDEX, 0, 5, FILLED + "type(3, 1); type(4, 1); " + name + "(#, 0, 0)");
        range(INDEX, 0, 2, THREE + name + "(4, #, 0)");
        range(INDEX, 0, 23, FULL + name + "(4, #, 7)");
        range(INDEX, 0, 7, THREE + name + "(4, 0, #)");
        range(INDEX, 0, 7, FULL + name + "(4, 23, #)");
        refused(INDEX, name + "(4, 0, 0)");
        refused(INDEX, name + "(4, -1, 0)");
        refused(INDEX, FULL + "wipe(4); " + name + "(4, 0, 0)");
    }

    private void promise18set() {
        section(18);
        says("Another BYTE stands at a place.");
        answers("10 255 30", THREE + "set(4, 1, 511); bytes(4)");
        answers("10 20 254", THREE + "set(4, 2, -2); bytes(4)");
        answers("0 20 30", THREE + "set(4, 0, -2147483648); bytes(4)");
        answers("10 20 30", THREE + "set(4, 0, 10); bytes(4)");

        says("Returns that before.");
        answers(20, THREE + "set(4, 1, 511)");
        answers(255, THREE + "set(4, 1, 511); set(4, 1, 0)");
        answers(0, "type(4, 0); set(4, 0, 9)");

        says("Throws `IndexOutOfBoundsException` if text is not 0 to 5, or place not 0 to LENGTH - 1");
        range(INDEX, 0, 5, FILLED + "type(3, 1); type(4, 1); set(#, 0, 9)");
        range(INDEX, 0, 2, THREE + "set(4, #, 9)");
        range(INDEX, 0, 23, FULL + "set(4, #, 9)");
        refused(INDEX, "set(4, 0, 9)");
        refused(INDEX, "set(4, -1, 9)");
        refused(INDEX, FULL + "wipe(4); set(4, 0, 9)");
    }

    private void promise19drop() {
        section(19);
        says("Takes the last BYTES away.");
        answers("10 20", THREE + "drop(4, 1); bytes(4)");
        answers("", THREE + "drop(4, 3); bytes(4)");
        answers("7", FULL + "drop(4, 23); bytes(4)");
        answers("10 9", THREE + "drop(4, 2); type(4, 9); bytes(4)");
        answers("7", THREE + "drop(4, 3); type(4, 7); bytes(4)");
        answers("10 20 30", THREE + typed(3, 0, 9) + "drop(3, 9); bytes(4)");

        says("Returns LENGTH then.");
        answers(2, THREE + "drop(4, 1)");
        answers(0, THREE + "drop(4, 3)");
        answers(0, FULL + "drop(4, 24)");
        answers(23, FULL + "drop(4, 1)");

        textIsNot0to5("drop(#, 1)");

        says("Throws `IllegalArgumentException` if many is not 1 to LENGTH");
        range(ARGUMENT, 1, 3, THREE + "drop(4, #)");
        range(ARGUMENT, 1, 24, FULL + "drop(4, #)");
        range(ARGUMENT, 1, 1, "type(4, 9); drop(4, #)");
        refused(ARGUMENT, "drop(4, 1)");
        refused(ARGUMENT, "drop(4, 0)");
        refused(ARGUMENT, THREE + "drop(4, 3); drop(4, 1)");
    }

    private void promise20wipe() {
        section(20);
        says("Takes all BYTES away.");
        answers("", THREE + "wipe(4); bytes(4)");
        answers("", FULL + "wipe(4); bytes(4)");
        answers("9", FULL + "wipe(4); type(4, 9); bytes(4)");
        answers(24, FULL + "wipe(4); typeRow(4, 1, 1, 24)");
        answers("00000000", FULL + "wipe(4); hexOf(4)");
        answers(24, FULL + "wipe(3); length(4)");

        says("Returns LENGTH before.");
        answers(0, "wipe(4)");
        answers(3, THREE + "wipe(4)");
        answers(24, FULL + "wipe(4)");
        answers(0, FULL + "wipe(4); wipe(4)");

        textIsNot0to5("wipe(#)");
    }

    private void promise21join() {
        String two = "typeRow(0, 1, 1, 2); typeRow(1, 3, 1, 3); ";
        section(21);
        says("A TEXT becomes two others, one behind the other.");
        answers("1 2 3 4 5", two + "join(0, 1, 2); bytes(2)");
        answers("3 4 5 1 2", two + "join(1, 0, 2); bytes(2)");
        answers("1 2", two + "join(0, 1, 2); bytes(0)");
        answers("3 4 5", two + "join(0, 1, 2); bytes(1)");
        answers("1 2 3 4 5", two + FULL + "join(0, 1, 4); bytes(4)");
        answers("1 2", two + FULL + "join(0, 2, 4); bytes(4)");
        answers("1 2", two + FULL + "join(2, 0, 4); bytes(4)");
        answers("", FULL + "join(2, 3, 4); bytes(4)");
        answers(BYTES_OF_FULL, FULL + "join(4, 2, 3); bytes(3)");
        answers(BYTES_OF_FULL, FULL + "join(2, 4, 3); bytes(3)");
        // What is made is its own: a change of what it was made of does not reach it.
        answers("1 2 3 4 5", two + "join(0, 1, 2); set(0, 0, 99); wipe(1); bytes(2)");

        says("- `to`: which TEXT becomes it (perhaps one of both)");
        answers("1 2 3 4 5", two + "join(0, 1, 0); bytes(0)");
        answers("1 2 3 4 5", two + "join(0, 1, 1); bytes(1)");
        answers("1 2", two + "join(0, 1, 1); bytes(0)");
        answers("1 2 1 2", two + "join(0, 0, 0); bytes(0)");
        answers("3 4 5 3 4 5", two + "join(1, 1, 0); bytes(0)");
        answers("1 2", two + "join(0, 2, 0); bytes(0)");
        answers("1 2", two + "join(2, 0, 0); bytes(0)");
        answers("", two + "join(2, 3, 0); bytes(0)");
        answers(BYTES_OF_FULL, FULL + "join(4, 2, 4); bytes(4)");
        answers(BYTES_OF_FULL, FULL + "join(4, 2, 2); bytes(2)");

        says("Returns LENGTH then.");
        answers(5, two + "join(0, 1, 2)");
        answers(0, FULL + "join(2, 3, 4)");
        answers(24, FULL + "join(4, 2, 3)");
        answers(24, typed(0, 0, 12) + "join(0, 0, 0)");

        says("Throws `IndexOutOfBoundsException` if one, other or to is not 0 to 5");
        range(INDEX, 0, 5, two + "join(#, 1, 2)");
        range(INDEX, 0, 5, two + "join(0, #, 2)");
        range(INDEX, 0, 5, two + "join(0, 1, #)");

        says("Throws `IllegalStateException` if it would have more than 24");
        for (int has = 0; has <= 24; has++) {
            answers(24, typed(0, 0, has) + typed(1, 50, 24 - has) + "join(0, 1, 2)");
            if (has > 0) {
                refused(STATE, typed(0, 0, has) + typed(1, 50, 25 - has) + "join(0, 1, 2)");
                refused(STATE, typed(0, 0, has) + typed(1, 50, 25 - has) + "join(0, 1, 0)");
                refused(STATE, typed(0, 0, has) + typed(1, 50, 25 - has) + "join(0, 1, 1)");
            }
        }
        refused(STATE, typed(0, 0, 13) + "join(0, 0, 0)");
        refused(STATE, FULL + "join(4, 4, 0)");
    }

    private void promise22change() {
        String two = "typeRow(0, 1, 1, 2); type(0, 255); typeRow(1, 3, 1, 3); ";
        section(22);
        says("A TEXT becomes another one, CHANGED place by place by a third one.");
        answers("2 6 250", two + "change(0, 1, 2); bytes(2)");
        answers("2 6 250", two + "change(1, 0, 2); bytes(2)");
        answers("1 2 255", two + "change(0, 1, 2); bytes(0)");
        answers("3 4 5", two + "change(0, 1, 2); bytes(1)");
        answers("2 6 250", two + FULL + "change(0, 1, 4); bytes(4)");
        answers("", FULL + "change(2, 3, 4); bytes(4)");
        answers("2 6 250", two + "change(0, 1, 2); set(0, 0, 99); wipe(1); bytes(2)");

        says("- `to`: which TEXT becomes it (perhaps one of both)");
        answers("2 6 250", two + "change(0, 1, 0); bytes(0)");
        answers("2 6 250", two + "change(0, 1, 1); bytes(1)");
        answers("1 2 255", two + "change(0, 1, 1); bytes(0)");
        answers("0 0 0", two + "change(0, 0, 0); bytes(0)");
        answers("0 0 0", two + "change(1, 1, 0); bytes(0)");
        answers("", "change(3, 3, 3); bytes(3)");

        says("Returns how many bits are 1 in it.");
        answers(9, two + "change(0, 1, 2)");
        answers(0, two + "change(0, 0, 2)");
        answers(0, "change(3, 4, 5)");
        answers(192, "typeRow(0, 255, 0, 24); typeRow(1, 0, 0, 24); change(0, 1, 2)");
        answers(192, "typeRow(0, 170, 0, 24); typeRow(1, 85, 0, 24); change(0, 1, 1)");
        answers(8, "type(0, 255); type(1, 0); change(0, 1, 0)");

        says("Throws `IndexOutOfBoundsException` if one, other or to is not 0 to 5");
        range(INDEX, 0, 5, "change(#, 1, 2)");
        range(INDEX, 0, 5, "change(0, #, 2)");
        range(INDEX, 0, 5, two + "change(0, 1, #)");

        says("Throws `IllegalStateException` if one and other have not the same LENGTH");
        for (int length = 0; length <= 24; length++) {
            for (int to = 0; to < 3; to++) {
                String call = "change(0, 1, " + to + ")";
                if (length > 0) {
                    refused(STATE, typed(0, 0, length) + typed(1, 50, length - 1) + call);
                    refused(STATE, typed(0, 0, length - 1) + typed(1, 50, length) + call);
                }
                allows(typed(0, 0, length) + typed(1, 50, length) + call);
            }
        }
        // The LENGTH of the one that becomes it plays no part.
        answers(3, FULL + "type(0, 7); type(1, 0); change(0, 1, 4)");
        refused(STATE, FULL + "change(4, 0, 0)");
        refused(STATE, FULL + "change(0, 4, 0)");
    }

    private void allows(String calls) {
        Run run = run();
        run.same(run.calls(calls) instanceof Integer, true);
        run.sameState();
    }

    private void promise23copy() {
        section(23);
        says("A TEXT becomes another one.");
        answers("10 20 30", THREE + "copy(4, 0); bytes(0)");
        answers("10 20 30", THREE + "copy(4, 0); bytes(4)");
        answers("10 20 30", THREE + "copy(4, 4); bytes(4)");
        answers("10 20 30", THREE + typed(0, 0, 24) + "copy(4, 0); bytes(0)");
        answers(BYTES_OF_FULL, FULL + "copy(4, 0); bytes(0)");
        answers("", FULL + "copy(0, 4); bytes(4)");
        answers("", "copy(0, 4); bytes(4)");
        answers("10 20 30", THREE + "copy(4, 0); set(4, 0, 99); type(4, 7); bytes(0)");
        answers("10 20 30", THREE + "copy(4, 0); set(0, 0, 99); type(0, 7); bytes(4)");

        says("Returns LENGTH then.");
        answers(3, THREE + "copy(4, 0)");
        answers(3, THREE + "copy(4, 4)");
        answers(24, FULL + "copy(4, 0)");
        answers(0, FULL + "copy(0, 4)");
        answers(3, THREE + typed(0, 0, 24) + "copy(4, 0)");

        says("Throws `IndexOutOfBoundsException` if one or to is not 0 to 5");
        range(INDEX, 0, 5, FILLED + "copy(#, 0)");
        range(INDEX, 0, 5, FILLED + "copy(0, #)");
    }
}
