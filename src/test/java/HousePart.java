/** Promises 47 to 49: the whole house. */
final class HousePart extends Part {
    private static final String ALL_FULL = "typeRow(0, 1, 1, 24); typeRow(1, 2, 2, 24); typeRow(2, 3, 3, 24); "
            + "typeRow(3, 4, 4, 24); typeRow(4, 5, 5, 24); typeRow(5, 6, 6, 24); ";
    private static final String ALL_FED = "feed(0, 1); feedOften(1, 2, 99); feedRow(2, 3, 3, 24); feedHighFirst(3, -1); ";

    HousePart(Due due, Book book) {
        super(due, book);
    }

    @Override
    void test() {
        promise47house();
        promise48isSound();
        promise49digest();
    }

    private void houses(String calls, int... wanted) {
        for (int what = 0; what < wanted.length; what++) {
            answers(wanted[what], calls + "house(" + what + ")");
        }
    }

    private void promise47house() {
        section(47);
        says("- `what`: 0 REGISTERS with HAD above 0, 1 HAD of all, 2 TEXTS that are not empty, 3 LENGTHS of all, 4 how "
                + "many unlike CHECKS the REGISTERS have, 5 how many unlike ones the TEXTS have, 6 how many were "
                + "REFUSED");
        says("Returns that.");
        houses("", 0, 0, 0, 0, 1, 1, 0);
        houses(FILLED, 3, 109, 4, 57, 4, 5, 2);
        houses(ALL_FULL + ALL_FED + "knock(); ", 4, 128, 6, 144, 4, 6, 1);
        houses(ALL_FULL + ALL_FED + "beginAll(); wipe(0); wipe(5); ", 0, 0, 4, 96, 1, 5, 0);
        // Like ones that do not stand side by side count once.
        houses("feed(0, 1); feed(1, 2); feed(2, 1); feed(3, 2); ", 4, 4, 0, 0, 2, 1, 0);
        houses("feed(0, 1); feed(3, 1); ", 2, 2, 0, 0, 2, 1, 0);
        houses("feed(1, 1); feed(2, 2); feed(3, 3); ", 3, 3, 0, 0, 4, 1, 0);
        houses("type(0, 1); type(1, 2); type(2, 3); type(3, 1); type(4, 2); type(5, 3); ", 0, 0, 6, 6, 1, 3, 0);
        houses("type(0, 1); type(5, 1); ", 0, 0, 2, 2, 1, 2, 0);
        // It is the check that counts, not the bytes: here other bytes, and other many of them, have the same one.
        houses(leads(0, 0) + leads(1, 7) + "feed(2, 0); feedLowFirst(2, 0); ", 3, 13, 0, 0, 3, 1, 0);
        houses(leadsText(2, 0), 0, 0, 1, 4, 1, 1, 0);
        houses("feed(0, 1); type(0, 1); typeCheck(0, 0); typeCheck(1, 1); ", 1, 1, 2, 9, 2, 2, 0);
        for (int bit = 0; bit < 32; bit++) {
            answers(2, leads(0, 1L << bit) + "house(4)");
            answers(2, leadsText(0, 1L << bit) + "house(5)");
        }

        says("Throws `IllegalArgumentException` if what is not 0 to 6");
        range(ARGUMENT, 0, 6, FILLED + "house(#)");
    }

    private void promise48isSound() {
        section(48);
        says("Returns whether all of this is so: TEXT by TEXT: two new REGISTERS, one fed that TEXT and then its own "
                + "CHECK, the other one its own CHECK alone, tell the same CHECK, and so they do when both are fed that "
                + "TEXT then; each FLIPPED bit gives another CHECK than the TEXT has, and no two the same; fed its own "
                + "CHECK a REGISTER tells 1214729159; and for each two TEXTS of the same LENGTH the CHECK of one CHANGED "
                + "by the other, CHANGED by that of as many BYTES 0, is the CHECK of the one CHANGED by that of the "
                + "other.");
        answers(true, "isSound()");
        answers(true, FILLED + "isSound()");
        answers(true, ALL_FULL + ALL_FED + "isSound()");
        answers(true, "typeRow(0, 0, 0, 24); typeRow(1, 255, 0, 24); copy(0, 2); copy(1, 3); isSound()");
        answers(true, leadsText(0, 0) + leadsText(1, 4294967295L) + "typeRow(2, 0, 0, 4); isSound()");
        for (int many = 1; many <= 24; many++) {
            String row = ", 1, 77, " + many + "); ";
            answers(true, "typeRow(0" + row + "typeRow(5" + row + "flip(5, " + (many - 1) + ", 7); isSound()");
        }
    }

    private void promise49digest() {
        section(49);
        says("Computes a checksum. A number d starts with 7733; then d becomes d * 31 + v, which wraps around as a 64-bit "
                + "integer, for each v in this order: house() of 0 to 6; REGISTER by REGISTER low(), high(), had(), "
                + "ones(); REGISTER by REGISTER apart() with each of 0 to 3, then compare() with each of 0 to 3; TEXT by "
                + "TEXT length(), its BYTES, lowOf(), flips(), evenOnes(); for each TEXT apartOf() with each one; for "
                + "each TEXT findFlip() with each REGISTER; 1 if isSound(), otherwise 0.");
        says("Returns d.");
        answers(-6911026047557584618L, "digest()");
        answers(-6911026047557584618L, "digest(); digest()");
        answers(840970281715990263L, "feedRow(0, -300, -99, 24); feedRow(1, 999, 99, 24); digest()");
        for (String calls : new String[] {FILLED, ALL_FULL, ALL_FED, ALL_FULL + ALL_FED + "knock(); ",
            FILLED + "feedText(2, 1); flip(1, 3, 3); ", leads(0, 4294967295L) + leads(1, 2147483648L),
            "feed(1, 1); feed(2, 2); ", "type(2, 1); type(3, 2); ", leadsText(0, 4294967295L) + leadsText(1, 32768)}) {
            Run run = run();
            run.calls(calls);
            run.same(run.calls("digest()"), spelled(run));
            run.sameState();
        }
    }

    /** The digest put together from the calls that it names, and cut to 64 bits at the end alone. */
    private static Object spelled(Run run) {
        Digest digest = new Digest(run);
        for (int what = 0; what < 7; what++) {
            digest.add("house", what);
        }
        for (int register = 0; register < 4; register++) {
            digest.addAll(register, "low", "high", "had", "ones");
        }
        for (int register = 0; register < 4; register++) {
            digest.addWithEach("apart", register, 4);
            digest.addWithEach("compare", register, 4);
        }
        for (int text = 0; text < 6; text++) {
            digest.add("length", text);
            for (int place = 0; place < run.model.texts.get(text).size(); place++) {
                digest.add("byteAt", text, place);
            }
            digest.addAll(text, "lowOf", "flips", "evenOnes");
        }
        for (int text = 0; text < 6; text++) {
            digest.addWithEach("apartOf", text, 6);
        }
        for (int text = 0; text < 6; text++) {
            digest.addWithEach("findFlip", text, 4);
        }
        return digest.with(run.call("isSound").equals(true) ? 1 : 0);
    }
}
