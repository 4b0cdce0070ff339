/** Tests of some sections of the document, sentence by sentence. */
abstract class Part {
    static final String INDEX = "throws.IndexOutOfBoundsException";
    static final String ARGUMENT = "throws.IllegalArgumentException";
    static final String STATE = "throws.IllegalStateException";

    /**
     * Registers 0, 1 and 3 were fed 9, 1 and 99 bytes, register 2 none; texts 0 and 1 have 24 and 9 bytes, text 2
     * one, text 5 has 23, and 3 and 4 have none; two were refused.
     */
    static final String FILLED = "feedRow(0, 49, 1, 9); feed(1, 1); feedOften(3, 200, 99); typeRow(0, 7, 31, 24);"
            + " typeRow(1, 49, 1, 9); type(2, 255); typeRow(5, -5, -3, 23); knock(); knock();";

    /** So wide a range is walked through; of a wider one the ends are enough. */
    private static final long MOST_WALKED = 2000;

    final Due due;
    private final Book book;
    private int section;
    private String sentence = "";

    Part(Due due, Book book) {
        this.due = due;
        this.book = book;
    }

    abstract void test();

    final void section(int number) {
        section = number;
    }

    /** What follows tests this sentence. */
    final void says(String words) {
        sentence = words;
        book.named(section, words);
    }

    final Run run() {
        return new Run(due, (section == Book.WORDS ? "words" : "promise " + section) + " (" + sentence + ")");
    }

    /** The last one of the calls answers what is wanted, and all is then as the model has it. */
    final void answers(Object wanted, String calls) {
        Run run = run();
        run.same(run.calls(calls), wanted);
        run.sameState();
    }

    /** The last one of the calls throws, and changes nothing. */
    final void refused(String exception, String calls) {
        int last = calls.lastIndexOf(';') + 1;
        Run run = run();
        run.calls(calls.substring(0, last));
        Object before = run.call("digest");
        run.same(run.calls(calls.substring(last)), exception);
        run.same(run.call("digest"), before);
        run.sameState();
    }

    /** The last one of the calls may have least to most for its #, and throws for all beyond, on both sides. */
    final void range(String exception, int least, int most, String calls) {
        if ((long) most - least <= MOST_WALKED) {
            for (int number = least; number <= most; number++) {
                allowed(calls, number);
            }
        } else {
            allowed(calls, least);
            allowed(calls, most);
        }
        refused(exception, with(calls, least - 1));
        refused(exception, with(calls, most + 1));
        refused(exception, with(calls, Integer.MIN_VALUE));
        refused(exception, with(calls, Integer.MAX_VALUE));
    }

    private void allowed(String calls, int number) {
        Run run = run();
        String got = String.valueOf(run.calls(with(calls, number)));
        run.same(got.startsWith("throws."), false);
        run.sameState();
    }

    static String with(String calls, int number) {
        return calls.replace("#", String.valueOf(number));
    }

    // ---- calls that lead to a check

    /** Which number, fed as four bytes to a new register, gives the check: feeding undone bit by bit. */
    static int fourBytesFor(long check) {
        int number = ~(int) check;
        for (int bit = 0; bit < 32; bit++) {
            number = number < 0 ? (number ^ (int) 2197175160L) << 1 | 1 : number << 1;
        }
        return ~number;
    }

    /** Calls behind which a new register tells the check. */
    static String leads(int register, long check) {
        return "feedLowFirst(" + register + ", " + fourBytesFor(check) + "); ";
    }

    /** Calls behind which an empty text has the check. */
    static String leadsText(int text, long check) {
        StringBuilder calls = new StringBuilder();
        for (int value : Model.fourBytes(fourBytesFor(check))) {
            calls.append("type(").append(text).append(", ").append(value).append("); ");
        }
        return calls.toString();
    }
}
