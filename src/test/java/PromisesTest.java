import java.util.List;

/** A method for each promise: ordinary inputs, the edges that the document names, and wrong inputs. */
public final class PromisesTest {
    private static final Class<IndexOutOfBoundsException> INDEX = IndexOutOfBoundsException.class;
    private static final Class<IllegalArgumentException> ARGUMENT = IllegalArgumentException.class;
    private static final Class<IllegalStateException> STATE = IllegalStateException.class;

    /** What lies beyond 0 to 3, 0 to 5 and any other row that begins with 0. */
    private static final int[] FAR = {-1, 99, Integer.MIN_VALUE, Integer.MAX_VALUE};
    private static final long CHECK_OF_DIGITS = 3808858755L;
    private static final String CHECK_OF_CHECK = "1214729159";

    private final Due due = new Due();

    interface Call {
        Object on(int number);
    }

    public static void main(String[] args) {
        PromisesTest test = new PromisesTest();
        test.feeding();
        test.making();
        test.registersTell();
        test.textsTell();
        test.promise47house();
        test.promise48isSound();
        test.promise49digest();
        test.due.end();
    }

    private void feeding() {
        promise1constructor();
        promise2feed();
        promise3feedRow();
        promise4feedLowFirst();
        promise5feedHighFirst();
        promise6feedOften();
        promise7feedText();
        promise8feedBackward();
        promise9feedPart();
        promise10feedCheck();
        promise11begin();
        promise12beginAll();
        promise13knock();
    }

    private void making() {
        promise14type();
        promise15typeRow();
        promise16typeCheck();
        promise17flip();
        promise18set();
        promise19drop();
        promise20wipe();
        promise21join();
        promise22change();
        promise23copy();
    }

    private void registersTell() {
        promise24low();
        promise25high();
        promise26hex();
        promise27check();
        promise28hasBit();
        promise29byteOf();
        promise30ones();
        promise31had();
        promise32areLike();
        promise33apart();
        promise34compare();
    }

    private void textsTell() {
        promise35length();
        promise36byteAt();
        promise37bytes();
        promise38hexOf();
        promise39lowOf();
        promise40isCheckOf();
        promise41hexFlipped();
        promise42flips();
        promise43findFlip();
        promise44evenOnes();
        promise45apartOf();
        promise46hexJoined();
    }

    // ---- helps

    private void registersRefused(String name, Checkrow x, Call call) {
        refusedBeyond(name, x, 4, call);
    }

    private void textsRefused(String name, Checkrow x, Call call) {
        refusedBeyond(name, x, 6, call);
    }

    private void refusedBeyond(String name, Checkrow x, int many, Call call) {
        due.refused(name + " of " + many, x, INDEX, () -> call.on(many));
        for (int number : FAR) {
            due.refused(name + " of " + number, x, INDEX, () -> call.on(number));
        }
    }

    private static Checkrow with(int text, int... bytes) {
        Checkrow x = new Checkrow();
        for (int value : bytes) {
            x.type(text, value);
        }
        return x;
    }

    /** Register 0 was fed the document's nine bytes, register 1 one byte, 2 and 3 nothing; text 0 is full. */
    private static Checkrow filled() {
        Checkrow x = new Checkrow();
        x.feedRow(0, 49, 1, 9);
        x.feed(1, 1);
        x.typeRow(0, 7, 31, 24);
        x.typeRow(1, 49, 1, 9);
        return x;
    }

    private static String hexOfBytes(Integer... bytes) {
        return Model.hexOf(Model.check(List.of(bytes)));
    }

    private void hasBytes(String what, Checkrow x, int text, String bytes) {
        due.same("bytes of text " + text + " behind " + what, x.bytes(text), bytes);
        due.same("length of text " + text + " behind " + what, x.length(text),
                bytes.isEmpty() ? 0 : bytes.split(" ").length);
    }

    // ---- registers are fed

    private void promise1constructor() {
        Checkrow x = new Checkrow();
        for (int register = 0; register < 4; register++) {
            due.same("check of a new register", x.check(register), "0");
            due.same("had of a new register", x.had(register), 0);
        }
        for (int text = 0; text < 6; text++) {
            hasBytes("Checkrow()", x, text, "");
        }
        due.same("refused of a new object", x.house(6), 0);
        x.feed(0, 1);
        x.type(0, 1);
        x.knock();
        due.same("another new object", Due.state(new Checkrow()).toString().contains("refused 0"), true);
        due.same("another new register", new Checkrow().had(0), 0);
    }

    private void promise2feed() {
        Checkrow x = new Checkrow();
        for (int value = 49; value < 57; value++) {
            x.feed(0, value);
        }
        due.same("feed(0, 57)", x.feed(0, 57), (int) (CHECK_OF_DIGITS % 65536));
        due.same("check of the nine bytes", x.check(0), Long.toString(CHECK_OF_DIGITS));
        due.same("had of the nine bytes", x.had(0), 9);
        due.same("the other registers", x.check(1) + x.check(2) + x.check(3), "000");
        x.feed(1, 200);
        x.feed(2, 200 - 256);
        x.feed(3, 200 + 65536);
        due.same("only the lowest eight bits count", x.areLike(1, 2) && x.areLike(2, 3), true);
        due.same("feed(1, ..)", x.hex(1), hexOfBytes(200));
        x.begin(3);
        x.feed(3, Integer.MIN_VALUE);
        due.same("feed of the least number", x.hex(3), hexOfBytes(0));
        registersRefused("feed", x, number -> x.feed(number, 1));
    }

    private void promise3feedRow() {
        Checkrow x = new Checkrow();
        due.same("feedRow of the nine bytes", x.feedRow(3, 49, 1, 9), (int) (CHECK_OF_DIGITS % 65536));
        due.same("had", x.had(3), 9);
        x.feedRow(0, -3, -99, 4);
        due.same("falling row", x.hex(0), hexOfBytes(253, 154, 55, 212));
        Checkrow edges = new Checkrow();
        edges.feedRow(0, -999, -99, 1);
        edges.feedRow(1, 999, 99, 24);
        edges.feedRow(2, 999, -99, 1);
        edges.feedRow(3, -999, 99, 24);
        due.same("feedRow(0, -999, -99, 1)", edges.hex(0), hexOfBytes(25));
        due.same("feedRow(2, 999, -99, 1)", edges.hex(2), hexOfBytes(231));
        due.same("many of 24", edges.had(1) + edges.had(3), 48);
        registersRefused("feedRow", x, number -> x.feedRow(number, 0, 0, 1));
        due.refused("both are wrong", x, INDEX, () -> x.feedRow(4, 1000, 100, 0));
        wrongRows("feedRow", x, ROW_FEED);
    }

    interface RowCall {
        Object on(Checkrow x, int first, int step, int many);
    }

    private static final RowCall ROW_FEED = (x, first, step, many) -> x.feedRow(0, first, step, many);
    private static final RowCall ROW_TYPE = (x, first, step, many) -> x.typeRow(0, first, step, many);

    private void wrongRows(String name, Checkrow x, RowCall call) {
        int[][] wrong = {
            {1000, 0, 1}, {-1000, 0, 1}, {Integer.MAX_VALUE, 0, 1}, {Integer.MIN_VALUE, 0, 1},
            {0, 100, 1}, {0, -100, 1}, {0, Integer.MAX_VALUE, 1}, {0, Integer.MIN_VALUE, 1},
            {0, 0, 0}, {0, 0, 25}, {0, 0, -1}, {0, 0, Integer.MAX_VALUE}, {0, 0, Integer.MIN_VALUE},
        };
        for (int[] row : wrong) {
            due.refused(name + " of " + row[0] + ", " + row[1] + ", " + row[2], x, ARGUMENT,
                    () -> call.on(x, row[0], row[1], row[2]));
        }
    }

    private void promise4feedLowFirst() {
        Checkrow x = new Checkrow();
        int low = x.feedLowFirst(2, 67305985);
        due.same("feedLowFirst of 1, 2, 3, 4", x.hex(2), hexOfBytes(1, 2, 3, 4));
        due.same("feedLowFirst", low, x.low(2));
        due.same("had", x.had(2), 4);
        x.feedLowFirst(1, -2);
        due.same("feedLowFirst of -2", x.hex(1), hexOfBytes(254, 255, 255, 255));
        x.feedLowFirst(0, Integer.MIN_VALUE);
        due.same("feedLowFirst of the least number", x.hex(0), hexOfBytes(0, 0, 0, 128));
        registersRefused("feedLowFirst", x, number -> x.feedLowFirst(number, 1));
    }

    private void promise5feedHighFirst() {
        Checkrow x = new Checkrow();
        int low = x.feedHighFirst(2, 16909060);
        due.same("feedHighFirst of 1, 2, 3, 4", x.hex(2), hexOfBytes(1, 2, 3, 4));
        due.same("feedHighFirst", low, x.low(2));
        due.same("had", x.had(2), 4);
        x.feedHighFirst(1, -2);
        due.same("feedHighFirst of -2", x.hex(1), hexOfBytes(255, 255, 255, 254));
        x.feedHighFirst(0, Integer.MIN_VALUE);
        due.same("feedHighFirst of the least number", x.hex(0), hexOfBytes(128, 0, 0, 0));
        registersRefused("feedHighFirst", x, number -> x.feedHighFirst(number, 1));
    }

    private void promise6feedOften() {
        Checkrow x = new Checkrow();
        due.same("feedOften(0, 261, 3)", x.feedOften(0, 261, 3), (int) (Model.check(List.of(5, 5, 5)) % 65536));
        due.same("had", x.had(0), 3);
        x.feedOften(1, -1, 1);
        due.same("once", x.hex(1), hexOfBytes(255));
        x.feedOften(2, 9, 99);
        due.same("99 times", x.had(2), 99);
        registersRefused("feedOften", x, number -> x.feedOften(number, 1, 1));
        due.refused("both are wrong", x, INDEX, () -> x.feedOften(-1, 1, 0));
        for (int many : new int[] {0, -1, 100, Integer.MIN_VALUE, Integer.MAX_VALUE}) {
            due.refused("feedOften of " + many, x, ARGUMENT, () -> x.feedOften(0, 1, many));
        }
    }

    private void promise7feedText() {
        Checkrow x = filled();
        due.same("feedText(3, 1)", x.feedText(3, 1), 9);
        due.same("fed the nine bytes", x.check(3), Long.toString(CHECK_OF_DIGITS));
        due.same("feedText(3, 0)", x.feedText(3, 0), 33);
        due.same("feedText of an empty one", x.feedText(3, 5), 33);
        due.same("feedText of an empty one to a new one", x.feedText(2, 5), 0);
        due.same("check of a new one", x.check(2), "0");
        hasBytes("feedText", x, 1, "49 50 51 52 53 54 55 56 57");
        registersRefused("feedText", x, number -> x.feedText(number, 0));
        textsRefused("feedText", x, number -> x.feedText(0, number));
    }

    private void promise8feedBackward() {
        Checkrow x = with(5, 1, 2, 3);
        due.same("feedBackward(3, 5)", x.feedBackward(3, 5), 3);
        due.same("fed backward", x.hex(3), hexOfBytes(3, 2, 1));
        due.same("feedBackward of an empty one", x.feedBackward(3, 0), 3);
        hasBytes("feedBackward", x, 5, "1 2 3");
        registersRefused("feedBackward", x, number -> x.feedBackward(number, 5));
        textsRefused("feedBackward", x, number -> x.feedBackward(0, number));
    }

    private void promise9feedPart() {
        Checkrow x = with(5, 1, 2, 3, 4);
        due.same("feedPart(0, 5, 1, 3)", x.feedPart(0, 5, 1, 3), 2);
        due.same("fed a part", x.hex(0), hexOfBytes(2, 3));
        due.same("feedPart of all", x.feedPart(0, 5, 0, 4), 6);
        due.same("feedPart of nothing at the end", x.feedPart(0, 5, 4, 4), 6);
        due.same("feedPart of nothing at the start", x.feedPart(0, 5, 0, 0), 6);
        due.same("feedPart of an empty text", x.feedPart(1, 0, 0, 0), 0);
        due.same("fed the parts", x.hex(0), hexOfBytes(2, 3, 1, 2, 3, 4));
        registersRefused("feedPart", x, number -> x.feedPart(number, 5, 0, 1));
        textsRefused("feedPart", x, number -> x.feedPart(0, number, 0, 0));
        due.refused("all are wrong", x, INDEX, () -> x.feedPart(0, 6, 2, 1));
        int[][] wrong = {{-1, 2}, {2, 1}, {0, 5}, {5, 5}, {-1, -1}, {4, 3}, {5, 4}, {0, -1},
            {Integer.MIN_VALUE, 4}, {0, Integer.MAX_VALUE}, {Integer.MAX_VALUE, Integer.MAX_VALUE}};
        for (int[] part : wrong) {
            due.refused("feedPart of " + part[0] + " to " + part[1], x, ARGUMENT,
                    () -> x.feedPart(0, 5, part[0], part[1]));
        }
    }

    private void promise10feedCheck() {
        Checkrow x = filled();
        x.feedCheck(2, 0);
        due.same("feedCheck(2, 0)", x.hex(2), hexOfBytes(0x83, 0x92, 0x06, 0xe3));
        due.same("had", x.had(2), 4);
        due.same("the other one", x.check(0), Long.toString(CHECK_OF_DIGITS));
        due.same("feedCheck of its own", x.feedCheck(0, 0), 19399);
        due.same("its own check as it was ahead", x.check(0), CHECK_OF_CHECK);
        due.same("feedCheck of its own once more", x.feedCheck(3, 3), 19399);
        registersRefused("feedCheck to", x, number -> x.feedCheck(number, 0));
        registersRefused("feedCheck of", x, number -> x.feedCheck(0, number));
    }

    private void promise11begin() {
        Checkrow x = filled();
        due.same("begin(0)", x.begin(0), 9);
        due.same("check of the begun one", x.check(0) + " " + x.had(0), "0 0");
        due.same("had of the others", x.had(1), 1);
        due.same("begin(0) again", x.begin(0), 0);
        registersRefused("begin", x, number -> x.begin(number));
    }

    private void promise12beginAll() {
        Checkrow x = filled();
        due.same("beginAll()", x.beginAll(), 2);
        due.same("all checks", x.check(0) + x.check(1) + x.check(2) + x.check(3), "0000");
        due.same("all had", x.had(0) + x.had(1), 0);
        due.same("beginAll() again", x.beginAll(), 0);
        x.feed(3, 1);
        due.same("beginAll() of the last one", x.beginAll(), 1);
        due.same("texts stay", x.length(0), 24);
    }

    private void promise13knock() {
        Checkrow x = filled();
        due.refused("a call that throws", x, INDEX, () -> x.feed(4, 0));
        due.same("knock()", x.knock(), 1);
        due.same("knock() again", x.knock(), 2);
        due.same("registers stay", x.check(0), Long.toString(CHECK_OF_DIGITS));
        x.beginAll();
        due.same("knock() a third time", x.knock(), 3);
    }

    // ---- texts are made

    private void promise14type() {
        Checkrow x = new Checkrow();
        due.same("type(5, 300)", x.type(5, 300), 1);
        due.same("type(5, -1)", x.type(5, -1), 2);
        hasBytes("type", x, 5, "44 255");
        x.typeRow(5, 0, 0, 21);
        due.same("type of the last one", x.type(5, 1), 24);
        due.refused("type behind 24", x, STATE, () -> x.type(5, 1));
        textsRefused("type", x, number -> x.type(number, 1));
    }

    private void promise15typeRow() {
        Checkrow x = new Checkrow();
        due.same("typeRow(0, 250, 3, 4)", x.typeRow(0, 250, 3, 4), 4);
        due.same("typeRow(0, -1, -2, 2)", x.typeRow(0, -1, -2, 2), 6);
        hasBytes("typeRow", x, 0, "250 253 0 3 255 253");
        due.same("typeRow to 24", x.typeRow(0, 999, 99, 18), 24);
        due.same("typeRow of 24", x.typeRow(1, -999, -99, 24), 24);
        due.same("its first byte", x.byteAt(1, 0), 25);
        due.same("its last byte", x.byteAt(1, 23), Math.floorMod(-999 - 23 * 99, 256));
        due.same("edges", x.typeRow(2, 999, -99, 1) + x.typeRow(3, -999, 99, 1), 2);
        textsRefused("typeRow", x, number -> x.typeRow(number, 0, 0, 1));
        due.refused("all are wrong", x, INDEX, () -> x.typeRow(6, 1000, 0, 25));
        wrongRows("typeRow of a full one", x, ROW_TYPE);
        due.refused("typeRow behind 24", x, STATE, () -> x.typeRow(0, 0, 0, 1));
        x.drop(0, 3);
        due.refused("typeRow of one too many", x, STATE, () -> x.typeRow(0, 0, 0, 4));
        due.same("typeRow of what fits", x.typeRow(0, 0, 0, 3), 24);
    }

    private void promise16typeCheck() {
        Checkrow x = filled();
        due.same("typeCheck(2, 0)", x.typeCheck(2, 0), 4);
        due.same("typeCheck(2, 3)", x.typeCheck(2, 3), 8);
        hasBytes("typeCheck", x, 2, "131 146 6 227 0 0 0 0");
        due.same("the register", x.had(0), 9);
        x.drop(0, 3);
        due.refused("typeCheck to 25", x, STATE, () -> x.typeCheck(0, 0));
        x.drop(0, 1);
        due.same("typeCheck to 24", x.typeCheck(0, 0), 24);
        textsRefused("typeCheck", x, number -> x.typeCheck(number, 0));
        registersRefused("typeCheck of a full one", x, number -> x.typeCheck(0, number));
    }

    private void promise17flip() {
        Checkrow x = with(4, 10, 20, 30);
        due.same("flip(4, 0, 0)", x.flip(4, 0, 0), 11);
        due.same("flip(4, 2, 7)", x.flip(4, 2, 7), 158);
        due.same("flip(4, 1, 4)", x.flip(4, 1, 4), 4);
        hasBytes("flip", x, 4, "11 4 158");
        due.same("flip back", x.flip(4, 2, 7), 30);
        textsRefused("flip", x, number -> x.flip(number, 0, 0));
        refusedBeyond("place of flip", x, 3, number -> x.flip(4, number, 0));
        refusedBeyond("bit of flip", x, 8, number -> x.flip(4, 0, number));
        due.refused("flip of an empty one", x, INDEX, () -> x.flip(0, 0, 0));
    }

    private void promise18set() {
        Checkrow x = with(4, 10, 20, 30);
        due.same("set(4, 1, 511)", x.set(4, 1, 511), 20);
        due.same("set(4, 2, -2)", x.set(4, 2, -2), 30);
        due.same("set(4, 0, 0)", x.set(4, 0, 0), 10);
        hasBytes("set", x, 4, "0 255 254");
        textsRefused("set", x, number -> x.set(number, 0, 0));
        refusedBeyond("place of set", x, 3, number -> x.set(4, number, 0));
        due.refused("set of an empty one", x, INDEX, () -> x.set(0, 0, 0));
    }

    private void promise19drop() {
        Checkrow x = with(4, 10, 20, 30);
        due.same("drop(4, 1)", x.drop(4, 1), 2);
        hasBytes("drop", x, 4, "10 20");
        for (int many : new int[] {0, -1, 3, Integer.MIN_VALUE, Integer.MAX_VALUE}) {
            due.refused("drop of " + many, x, ARGUMENT, () -> x.drop(4, many));
        }
        due.same("drop of all", x.drop(4, 2), 0);
        due.refused("drop of an empty one", x, ARGUMENT, () -> x.drop(4, 1));
        x.type(4, 5);
        hasBytes("type behind drop", x, 4, "5");
        textsRefused("drop", x, number -> x.drop(number, 1));
        due.refused("both are wrong", x, INDEX, () -> x.drop(6, 0));
    }

    private void promise20wipe() {
        Checkrow x = filled();
        due.same("wipe(0)", x.wipe(0), 24);
        hasBytes("wipe", x, 0, "");
        due.same("the other text", x.length(1), 9);
        due.same("wipe(0) again", x.wipe(0), 0);
        due.same("room again", x.typeRow(0, 0, 0, 24), 24);
        textsRefused("wipe", x, number -> x.wipe(number));
    }

    private void promise21join() {
        Checkrow x = with(0, 1, 2);
        x.typeRow(1, 3, 1, 3);
        x.typeRow(2, 9, 0, 24);
        due.same("join(0, 1, 2)", x.join(0, 1, 2), 5);
        hasBytes("join to a third one", x, 2, "1 2 3 4 5");
        hasBytes("join to a third one", x, 0, "1 2");
        due.same("join(0, 1, 0)", x.join(0, 1, 0), 5);
        hasBytes("join to the first one", x, 0, "1 2 3 4 5");
        due.same("join(0, 1, 1)", x.join(0, 1, 1), 8);
        hasBytes("join to the other one", x, 1, "1 2 3 4 5 3 4 5");
        due.same("join(2, 2, 2)", x.join(2, 2, 2), 10);
        hasBytes("join with itself", x, 2, "1 2 3 4 5 1 2 3 4 5");
        due.same("join of empty ones", x.join(4, 5, 2), 0);
        x.typeRow(3, 0, 1, 16);
        due.refused("join to 32", x, STATE, () -> x.join(3, 3, 5));
        due.same("join to 24", x.join(1, 3, 5), 24);
        x.type(1, 1);
        due.refused("join to 25", x, STATE, () -> x.join(1, 3, 5));
        textsRefused("one of join", x, number -> x.join(number, 0, 0));
        textsRefused("other of join", x, number -> x.join(0, number, 0));
        textsRefused("to of join that is too long", x, number -> x.join(3, 3, number));
    }

    private void promise22change() {
        Checkrow x = with(0, 1, 2, 255);
        x.typeRow(1, 3, 1, 3);
        x.typeRow(2, 9, 0, 24);
        due.same("change(0, 1, 2)", x.change(0, 1, 2), 1 + 2 + 6);
        hasBytes("change", x, 2, "2 6 250");
        hasBytes("change", x, 0, "1 2 255");
        due.same("change(0, 1, 0)", x.change(0, 1, 0), 9);
        hasBytes("change to the first one", x, 0, "2 6 250");
        due.same("change(0, 1, 1)", x.change(0, 1, 1), 1 + 1 + 8);
        hasBytes("change to the other one", x, 1, "1 2 255");
        due.same("change(0, 0, 0)", x.change(0, 0, 0), 0);
        hasBytes("change by itself", x, 0, "0 0 0");
        due.same("change of empty ones", x.change(4, 5, 0), 0);
        hasBytes("change of empty ones", x, 0, "");
        due.refused("change of another length", x, STATE, () -> x.change(0, 1, 3));
        textsRefused("one of change", x, number -> x.change(number, 0, 0));
        textsRefused("other of change", x, number -> x.change(0, number, 0));
        textsRefused("to of change of another length", x, number -> x.change(0, 1, number));
    }

    private void promise23copy() {
        Checkrow x = with(0, 1, 2);
        x.typeRow(1, 3, 1, 3);
        due.same("copy(0, 1)", x.copy(0, 1), 2);
        hasBytes("copy", x, 1, "1 2");
        x.set(0, 0, 9);
        hasBytes("a change of the other one", x, 1, "1 2");
        due.same("copy(0, 0)", x.copy(0, 0), 2);
        hasBytes("copy to itself", x, 0, "9 2");
        due.same("copy of an empty one", x.copy(5, 0), 0);
        hasBytes("copy of an empty one", x, 0, "");
        textsRefused("one of copy", x, number -> x.copy(number, 0));
        textsRefused("to of copy", x, number -> x.copy(0, number));
    }

    // ---- what registers tell

    private void promise24low() {
        Checkrow x = filled();
        due.same("low(0)", x.low(0), 0x9283);
        due.same("low(3)", x.low(3), 0);
        registersRefused("low", x, number -> x.low(number));
    }

    private void promise25high() {
        Checkrow x = filled();
        due.same("high(0)", x.high(0), 0xe306);
        due.same("high(3)", x.high(3), 0);
        registersRefused("high", x, number -> x.high(number));
    }

    private void promise26hex() {
        Checkrow x = filled();
        due.same("hex(0)", x.hex(0), "e3069283");
        due.same("hex(1)", x.hex(1), "a016d052");
        due.same("hex(2)", x.hex(2), "00000000");
        registersRefused("hex", x, number -> x.hex(number));
    }

    private void promise27check() {
        Checkrow x = filled();
        due.same("check(0)", x.check(0), "3808858755");
        due.same("check(1)", x.check(1), "2685849682");
        due.same("check(2)", x.check(2), "0");
        x.feedCheck(2, 2);
        due.same("check of a check", x.check(2), CHECK_OF_CHECK);
        for (long check : new long[] {9, 10, 2147483648L, 4294967295L}) {
            Checkrow led = new Checkrow();
            led.feedLowFirst(0, fourBytesFor((int) check));
            due.same("check that is led to " + check, led.check(0), Long.toString(check));
        }
        registersRefused("check", x, number -> x.check(number));
    }

    /** Which number, fed as four bytes to a new register, gives the check: feeding undone bit by bit. */
    private static int fourBytesFor(int check) {
        int number = ~check;
        for (int bit = 0; bit < 32; bit++) {
            number = number < 0 ? (number ^ (int) 2197175160L) << 1 | 1 : number << 1;
        }
        return ~number;
    }

    private void promise28hasBit() {
        Checkrow x = filled();
        for (int bit = 0; bit < 32; bit++) {
            due.same("hasBit(0, " + bit + ")", x.hasBit(0, bit), (CHECK_OF_DIGITS >> bit & 1) == 1);
            due.same("hasBit(2, " + bit + ")", x.hasBit(2, bit), false);
        }
        registersRefused("hasBit", x, number -> x.hasBit(number, 0));
        refusedBeyond("bit of hasBit", x, 32, number -> x.hasBit(0, number));
    }

    private void promise29byteOf() {
        Checkrow x = filled();
        int[] bytes = {0x83, 0x92, 0x06, 0xe3};
        for (int place = 0; place < 4; place++) {
            due.same("byteOf(0, " + place + ")", x.byteOf(0, place), bytes[place]);
        }
        registersRefused("byteOf", x, number -> x.byteOf(number, 0));
        refusedBeyond("place of byteOf", x, 4, number -> x.byteOf(0, number));
    }

    private void promise30ones() {
        Checkrow x = filled();
        due.same("ones(0)", x.ones(0), Long.bitCount(CHECK_OF_DIGITS));
        due.same("ones(1)", x.ones(1), 11);
        due.same("ones(3)", x.ones(3), 0);
        registersRefused("ones", x, number -> x.ones(number));
    }

    private void promise31had() {
        Checkrow x = filled();
        due.same("had(0)", x.had(0), 9);
        due.same("had(1)", x.had(1), 1);
        due.same("had(3)", x.had(3), 0);
        x.feedOften(1, 0, 99);
        x.feedOften(1, 0, 99);
        x.feedOften(1, 0, 99);
        due.same("had of more than 255", x.had(1), 298);
        registersRefused("had", x, number -> x.had(number));
    }

    private void promise32areLike() {
        Checkrow x = filled();
        due.same("areLike(0, 1)", x.areLike(0, 1), false);
        due.same("areLike(2, 3)", x.areLike(2, 3), true);
        due.same("areLike(0, 0)", x.areLike(0, 0), true);
        x.begin(1);
        x.feedText(1, 1);
        due.same("areLike(0, 1) then", x.areLike(0, 1), true);
        // HAD is no part of it: fed its own check, every register tells the same.
        x.feedCheck(0, 0);
        x.feedCheck(2, 2);
        due.same("areLike of other bytes", x.areLike(0, 2), true);
        registersRefused("areLike", x, number -> x.areLike(number, 0));
        registersRefused("other of areLike", x, number -> x.areLike(0, number));
    }

    private void promise33apart() {
        Checkrow x = filled();
        due.same("apart(0, 1)", x.apart(0, 1), Long.bitCount(CHECK_OF_DIGITS ^ 2685849682L));
        due.same("apart(1, 0)", x.apart(1, 0), x.apart(0, 1));
        due.same("apart(1, 2)", x.apart(1, 2), 11);
        due.same("apart(2, 3)", x.apart(2, 3), 0);
        registersRefused("apart", x, number -> x.apart(number, 0));
        registersRefused("other of apart", x, number -> x.apart(0, number));
    }

    private void promise34compare() {
        Checkrow x = filled();
        due.same("compare(0, 1)", x.compare(0, 1), 1);
        due.same("compare(1, 0)", x.compare(1, 0), -1);
        due.same("compare(2, 3)", x.compare(2, 3), 0);
        due.same("compare(1, 1)", x.compare(1, 1), 0);
        // As 32 bits with a sign these would stand the other way round.
        x.feedCheck(2, 2);
        due.same("compare(0, 2)", x.compare(0, 2), 1);
        due.same("compare(2, 0)", x.compare(2, 0), -1);
        registersRefused("compare", x, number -> x.compare(number, 0));
        registersRefused("other of compare", x, number -> x.compare(0, number));
    }

    // ---- what texts tell

    private void promise35length() {
        Checkrow x = filled();
        due.same("length(0)", x.length(0), 24);
        due.same("length(1)", x.length(1), 9);
        due.same("length(5)", x.length(5), 0);
        textsRefused("length", x, number -> x.length(number));
    }

    private void promise36byteAt() {
        Checkrow x = filled();
        due.same("byteAt(1, 0)", x.byteAt(1, 0), 49);
        due.same("byteAt(1, 8)", x.byteAt(1, 8), 57);
        due.same("byteAt(0, 23)", x.byteAt(0, 23), (7 + 23 * 31) % 256);
        textsRefused("byteAt", x, number -> x.byteAt(number, 0));
        refusedBeyond("place of byteAt", x, 9, number -> x.byteAt(1, number));
        due.refused("byteAt of an empty one", x, INDEX, () -> x.byteAt(5, 0));
        x.drop(1, 1);
        due.refused("byteAt of what was dropped", x, INDEX, () -> x.byteAt(1, 8));
    }

    private void promise37bytes() {
        Checkrow x = with(5, 0, 255, 7);
        x.type(4, 100);
        due.same("bytes(5)", x.bytes(5), "0 255 7");
        due.same("bytes(4)", x.bytes(4), "100");
        due.same("bytes(0)", x.bytes(0), "");
        textsRefused("bytes", x, number -> x.bytes(number));
    }

    private void promise38hexOf() {
        Checkrow x = filled();
        due.same("hexOf(1)", x.hexOf(1), "e3069283");
        due.same("hexOf(5)", x.hexOf(5), "00000000");
        textsRefused("hexOf", x, number -> x.hexOf(number));
    }

    private void promise39lowOf() {
        Checkrow x = filled();
        due.same("lowOf(1)", x.lowOf(1), 0x9283);
        due.same("lowOf(5)", x.lowOf(5), 0);
        textsRefused("lowOf", x, number -> x.lowOf(number));
    }

    private void promise40isCheckOf() {
        Checkrow x = filled();
        due.same("isCheckOf(1, 0)", x.isCheckOf(1, 0), true);
        due.same("isCheckOf(1, 1)", x.isCheckOf(1, 1), false);
        due.same("isCheckOf(5, 3)", x.isCheckOf(5, 3), true);
        due.same("isCheckOf(0, 0)", x.isCheckOf(0, 0), false);
        textsRefused("isCheckOf", x, number -> x.isCheckOf(number, 0));
        registersRefused("isCheckOf", x, number -> x.isCheckOf(0, number));
    }

    private void promise41hexFlipped() {
        Checkrow x = filled();
        for (int place = 0; place < 9; place++) {
            for (int bit = 0; bit < 8; bit++) {
                String told = x.hexFlipped(1, place, bit);
                x.flip(1, place, bit);
                due.same("hexFlipped(1, " + place + ", " + bit + ")", told, x.hexOf(1));
                x.flip(1, place, bit);
            }
        }
        hasBytes("hexFlipped", x, 1, "49 50 51 52 53 54 55 56 57");
        due.same("hexFlipped of one byte", with(3, 1).hexFlipped(3, 0, 7), hexOfBytes(129));
        textsRefused("hexFlipped", x, number -> x.hexFlipped(number, 0, 0));
        refusedBeyond("place of hexFlipped", x, 9, number -> x.hexFlipped(1, number, 0));
        refusedBeyond("bit of hexFlipped", x, 8, number -> x.hexFlipped(1, 0, number));
        due.refused("hexFlipped of an empty one", x, INDEX, () -> x.hexFlipped(5, 0, 0));
    }

    private void promise42flips() {
        Checkrow x = filled();
        due.same("flips(0)", x.flips(0), 193);
        due.same("flips(1)", x.flips(1), 73);
        due.same("flips(5)", x.flips(5), 1);
        due.same("flips(0) again", x.flips(0), 193);
        textsRefused("flips", x, number -> x.flips(number));
    }

    private void promise43findFlip() {
        Checkrow x = filled();
        due.same("findFlip(1, 0)", x.findFlip(1, 0), -2);
        due.same("findFlip(1, 1)", x.findFlip(1, 1), -1);
        due.same("findFlip of an empty one", x.findFlip(5, 3), -2);
        due.same("findFlip of an empty one without one", x.findFlip(5, 0), -1);
        for (int bit = 0; bit < 192; bit++) {
            x.flip(0, bit / 8, bit % 8);
            x.begin(2);
            x.feedText(2, 0);
            x.flip(0, bit / 8, bit % 8);
            due.same("findFlip of bit " + bit, x.findFlip(0, 2), bit);
            if (bit % 64 == 0) {
                x = filled();
            }
        }
        Checkrow last = x;
        textsRefused("findFlip", last, number -> last.findFlip(number, 0));
        registersRefused("findFlip", last, number -> last.findFlip(0, number));
    }

    private void promise44evenOnes() {
        Checkrow x = filled();
        due.same("evenOnes of an empty one", x.evenOnes(5), 1);
        x.typeRow(2, 10, 20, 6);
        due.same("evenOnes(2)", x.evenOnes(2), 5);
        x.type(3, 1);
        due.same("evenOnes of 1, whose check has 11", x.evenOnes(3), 1);
        x.set(3, 0, 0);
        due.same("evenOnes of 0", x.evenOnes(3), 1 + (Long.bitCount(Model.check(List.of(0))) + 1) % 2);
        textsRefused("evenOnes", x, number -> x.evenOnes(number));
    }

    private void promise45apartOf() {
        Checkrow x = filled();
        x.type(2, 1);
        due.same("apartOf(1, 2)", x.apartOf(1, 2), Long.bitCount(CHECK_OF_DIGITS ^ 2685849682L));
        due.same("apartOf(2, 1)", x.apartOf(2, 1), x.apartOf(1, 2));
        due.same("apartOf(2, 5)", x.apartOf(2, 5), 11);
        due.same("apartOf(0, 0)", x.apartOf(0, 0), 0);
        textsRefused("apartOf", x, number -> x.apartOf(number, 0));
        textsRefused("other of apartOf", x, number -> x.apartOf(0, number));
    }

    private void promise46hexJoined() {
        Checkrow x = with(0, 49, 50, 51, 52);
        x.typeRow(1, 53, 1, 5);
        x.typeRow(2, 7, 31, 24);
        due.same("hexJoined(0, 1)", x.hexJoined(0, 1), "e3069283");
        due.same("hexJoined(5, 0)", x.hexJoined(5, 0), x.hexOf(0));
        due.same("hexJoined(0, 5)", x.hexJoined(0, 5), x.hexOf(0));
        due.same("hexJoined(5, 5)", x.hexJoined(5, 5), "00000000");
        x.feedText(0, 2);
        x.feedText(0, 2);
        due.same("hexJoined of 48 bytes", x.hexJoined(2, 2), x.hex(0));
        hasBytes("hexJoined", x, 0, "49 50 51 52");
        textsRefused("hexJoined", x, number -> x.hexJoined(number, 0));
        textsRefused("other of hexJoined", x, number -> x.hexJoined(0, number));
    }

    // ---- the whole house

    private void promise47house() {
        Checkrow fresh = new Checkrow();
        int[] ofNew = {0, 0, 0, 0, 1, 1, 0};
        Checkrow x = filled();
        x.knock();
        x.knock();
        x.type(4, 0);
        x.typeRow(5, 49, 1, 9);
        x.feedText(3, 1);
        int[] ofFilled = {3, 19, 4, 43, 3, 4, 2};
        for (int what = 0; what < 7; what++) {
            due.same("house(" + what + ") of a new object", fresh.house(what), ofNew[what]);
            due.same("house(" + what + ")", x.house(what), ofFilled[what]);
        }
        for (int what : new int[] {-1, 7, Integer.MIN_VALUE, Integer.MAX_VALUE}) {
            due.refused("house of " + what, x, ARGUMENT, () -> x.house(what));
        }
    }

    private void promise48isSound() {
        due.same("isSound() of a new object", new Checkrow().isSound(), true);
        Checkrow x = filled();
        x.typeRow(2, 200, 77, 24);
        x.typeRow(3, 5, 5, 9);
        List<String> before = Due.state(x);
        due.same("isSound()", x.isSound(), true);
        due.same("the state behind isSound()", Due.state(x), before);
    }

    private void promise49digest() {
        Checkrow fresh = new Checkrow();
        due.same("digest() of a new object", fresh.digest(), -6911026047557584618L);
        due.same("digest() again", fresh.digest(), -6911026047557584618L);
        Checkrow x = new Checkrow();
        x.feedRow(0, -300, -99, 24);
        x.feedRow(1, 999, 99, 24);
        due.same("digest() of two registers", x.digest(), 840970281715990263L);
        List<String> before = Due.state(x);
        x.digest();
        due.same("the state behind digest()", Due.state(x), before);
        Checkrow filled = filled();
        due.same("digest() of registers and texts", filled.digest(), modelDigest());
    }

    private Object modelDigest() {
        Model model = new Model();
        try {
            model.answer("feedRow", 0, 49, 1, 9);
            model.answer("feed", 1, 1);
            model.answer("typeRow", 0, 7, 31, 24);
            model.answer("typeRow", 1, 49, 1, 9);
            return model.answer("digest");
        } catch (Model.Refusal refusal) {
            return refusal.due;
        }
    }
}
