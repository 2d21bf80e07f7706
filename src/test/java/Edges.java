import java.util.List;
import java.util.NoSuchElementException;

/** What the tests of the document's sentences share: each sentence is quoted, and its test has a new object. */
abstract class Edges {
    static final int NONE = CairnCipher.NONE;
    static final int ROW = CairnCipher.ROW, COLUMN = CairnCipher.COLUMN, HIGH = CairnCipher.HIGH,
            NEAR = CairnCipher.NEAR, SHADE = CairnCipher.SHADE;
    static final int LEAST = Integer.MIN_VALUE, GREATEST = Integer.MAX_VALUE;
    static final Class<IndexOutOfBoundsException> INDEX = IndexOutOfBoundsException.class;
    static final Class<IllegalArgumentException> ARGUMENT = IllegalArgumentException.class;
    static final Class<IllegalStateException> STATE = IllegalStateException.class;
    static final Class<NoSuchElementException> ELEMENT = NoSuchElementException.class;
    private static final Document DOCUMENT = new Document();

    private static String sentence = "";
    private static int tests = 0;

    /** What is done to an object. */
    interface Act {
        void on(CairnCipher x);
    }

    /** A call with a number that it may refuse. */
    interface NumberAct {
        void on(CairnCipher x, int number);
    }

    static void test(String section, String quote, Act act) {
        sentence = section + ", \"" + quote + "\"";
        tests++;
        Check.due(sentence + " stands in the document", DOCUMENT.says(section, quote), true);
        try {
            act.on(new CairnCipher());
        } catch (RuntimeException e) {
            Check.due(sentence + " at " + e.getStackTrace()[0], e.toString(), "no exception");
        }
    }

    /** Fails if a sentence of the document has no test; says how many tests there were. */
    static void endOfDocument() {
        for (String left : DOCUMENT.notQuoted()) {
            Check.due("a test of " + left, false, true);
        }
        System.out.println(tests + " tests of sentences");
    }

    static void due(Object got, Object want) {
        Check.due(here(), got, want);
    }

    private static String here() {
        String line = StackWalker.getInstance().walk(frames -> frames
                .filter(f -> !f.getClassName().equals("Edges") && !f.getClassName().startsWith("Edges$"))
                .findFirst().map(f -> f.getFileName() + ":" + f.getLineNumber()).orElse(""));
        return sentence + " at " + line;
    }

    /** The call is refused, and changes nothing: a twin that was not asked answers alike from there on. */
    static void refused(Class<? extends RuntimeException> want, Act ahead, Act call) {
        CairnCipher tried = new CairnCipher();
        CairnCipher twin = new CairnCipher();
        ahead.on(tried);
        ahead.on(twin);
        Check.dueThrow(here(), want, () -> call.on(tried));
        List<String> got = Probe.of(tried);
        List<String> due = Probe.of(twin);
        for (int i = 0; i < due.size(); i++) {
            if (!got.get(i).equals(due.get(i))) {
                Check.due(here() + ", what is asked after the refusal", got.get(i), due.get(i));
                return;
            }
        }
    }

    /** The numbers just below and just above what is allowed, and the least and the greatest one. */
    static void refusedOutside(Class<? extends RuntimeException> want, int least, int most, Act ahead,
            NumberAct call) {
        refusedEach(want, ahead, call, LEAST, least - 1, most + 1, GREATEST);
    }

    static void refusedEach(Class<? extends RuntimeException> want, Act ahead, NumberAct call, int... numbers) {
        for (int number : numbers) {
            refused(want, ahead, x -> call.on(x, number));
        }
    }

    static void refusedNoPlace(NumberAct call) {
        refusedOutside(INDEX, 0, 63, Scenes::busy, call);
    }

    /** In the busy scene there are the stages 0 and 1, and room for others; on a new object there is none. */
    static void refusedNoStage(NumberAct call) {
        refusedOutside(INDEX, 0, 1, Scenes::busy, call);
        refusedEach(INDEX, Scenes::busy, call, 3, 4, 5, 6);
    }

    /** In the busy scene there are the walkers 0 to 3, and room for others. */
    static void refusedNoWalker(NumberAct call) {
        refusedOutside(INDEX, 0, 3, Scenes::busy, call);
        refusedEach(INDEX, Scenes::busy, call, 5, 6);
    }
}
