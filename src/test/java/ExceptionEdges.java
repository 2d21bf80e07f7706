/** The sentences of "Exceptions"; each refused call is tried beside a twin, which shows that it changes nothing. */
final class ExceptionEdges extends Edges {
    private ExceptionEdges() {
    }

    static void all() {
        kinds();
        indexIsFirst();
        indexIsFirstOfWalkers();
        argumentIsSecond();
        changesNothing();
        constants();
    }

    private static void kinds() {
        test("Exceptions", "IndexOutOfBoundsException: there is no such place, stage, letter, walker or warden.", x -> {
            refused(INDEX, Scenes::busy, y -> y.way(0, 64));
            refused(INDEX, Scenes::busy, y -> y.fits(2));
            refused(INDEX, Scenes::busy, y -> y.spell(27));
            refused(INDEX, Scenes::busy, y -> y.at(4));
            refused(INDEX, Scenes::busy, y -> y.sees(1));
        });
        test("Exceptions", "IllegalArgumentException: another argument is out of its range.", x -> {
            refused(ARGUMENT, Scenes::busy, y -> y.setHeight(0, 10));
            refused(ARGUMENT, Scenes::busy, y -> y.hint(5, 0, 0, false));
            refused(ARGUMENT, Scenes::busy, y -> y.hint(0, 15, 0, false));
            refused(ARGUMENT, Scenes::busy, y -> y.pass(0));
            refused(ARGUMENT, Scenes::busy, y -> y.addWalker(0, 6));
        });
        test("Exceptions", "IllegalStateException, NoSuchElementException: as the method tells.", x -> {
            refused(STATE, Scenes::busy, y -> y.stage());
            refused(ELEMENT, Scenes::busy, y -> y.cipherAt(0, 12));
            refused(ELEMENT, y -> {
                Scenes.busy(y);
                y.setHeight(21, 0);
            }, y -> y.cipherLength(1));
        });
    }

    private static final String FIRST = "If several apply, the one that is named first in the throws clause is thrown";

    private static void indexIsFirst() {
        test("Exceptions", FIRST, x -> {
            refused(INDEX, Scenes::busy, y -> y.setHeight(64, 10));
            refused(INDEX, Scenes::busy, y -> y.setHeight(LEAST, GREATEST));
            refused(INDEX, Scenes::fullDraft, y -> y.hint(5, 0, 64, false));
            refused(INDEX, Scenes::fullDraft, y -> y.hint(ROW, 15, -1, false));
            refused(INDEX, Scenes::fullDraft, y -> y.hint(NEAR, 0, 64, false));
            refused(INDEX, Scenes::fullText, y -> y.spell(27));
            refused(INDEX, Scenes::fullText, y -> y.spell(-1));
            refused(INDEX, Scenes::busy, y -> y.cipherAt(2, -1));
            refused(INDEX, y -> { }, y -> y.cipherAt(0, GREATEST));
        });
    }

    private static void indexIsFirstOfWalkers() {
        test("Exceptions", FIRST, x -> {
            refused(INDEX, Scenes::sixWalkers, y -> y.addWalker(64, 0));
            refused(INDEX, Scenes::sixWalkers, y -> y.addWalker(-1, 1));
            refused(INDEX, Scenes::busy, y -> y.addWalker(64, 6));
            refused(INDEX, Scenes::fourWardens, y -> y.addWarden(64));
            refused(INDEX, Scenes::fourWardens, y -> y.addWarden(-1));
            refused(INDEX, Scenes::busy, y -> y.answer(3, 2));
            refused(INDEX, Scenes::busy, y -> y.answer(4, 1));
            refused(INDEX, Scenes::busy, y -> y.tell(4, 4, 0));
            refused(INDEX, Scenes::busy, y -> y.tell(-1, -1, 0));
            refused(INDEX, Scenes::busy, y -> y.tell(0, 0, 2));
            refused(INDEX, Scenes::busy, y -> y.tell(3, 0, 2));
        });
    }

    private static void argumentIsSecond() {
        test("Exceptions", "the one that is named first in the throws clause", x -> {
            refused(ARGUMENT, Scenes::fullDraft, y -> y.hint(5, 0, 0, false));
            refused(ARGUMENT, Scenes::fullDraft, y -> y.hint(ROW, -1, 0, false));
            refused(ARGUMENT, y -> Scenes.passTo(y, 5000), y -> y.pass(61));
            refused(ARGUMENT, y -> Scenes.passTo(y, 5000), y -> y.pass(GREATEST));
            refused(ARGUMENT, Scenes::sixWalkers, y -> y.addWalker(0, 0));
            refused(ARGUMENT, Scenes::sixWalkers, y -> y.addWalker(0, 6));
            refused(ARGUMENT, Scenes::busy, y -> y.tell(1, 1, 1));
            refused(ARGUMENT, Scenes::busy, y -> y.tell(0, 0, 0));
        });
    }

    private static void changesNothing() {
        test("Exceptions", "a call that throws changes nothing.", x -> {
            refused(STATE, ExceptionEdges::allFull, y -> y.hint(HIGH, 0, 0, false));
            refused(STATE, ExceptionEdges::allFull, y -> y.spell(0));
            refused(STATE, ExceptionEdges::allFull, y -> y.stage());
            refused(STATE, ExceptionEdges::allFull, y -> y.addWalker(0, 1));
            refused(STATE, ExceptionEdges::allFull, y -> y.addWarden(0));
            refused(STATE, ExceptionEdges::allFull, y -> y.answer(0, 1));
            refused(STATE, ExceptionEdges::allFull, y -> y.tell(0, 1, 0));
        });
        test("Exceptions", "changes nothing.", x -> {
            Scenes.busy(x);
            for (int i = 0; i < 20; i++) {
                Check.dueThrow("setHeight", ARGUMENT, () -> x.setHeight(9, 10));
                Check.dueThrow("spell", INDEX, () -> x.spell(27));
                Check.dueThrow("pass", ARGUMENT, () -> x.pass(61));
                Check.dueThrow("answer", STATE, () -> x.answer(0, 1));
            }
            CairnCipher twin = new CairnCipher();
            Scenes.busy(twin);
            due(Probe.of(x), Probe.of(twin));
        });
    }

    /** The draft fixes no place, all lists and the text are full. */
    private static void allFull(CairnCipher x) {
        Scenes.sixStages(x);
        Scenes.sixWalkers(x);
        Scenes.fourWardens(x);
        Scenes.fullDraft(x);
        Scenes.fullText(x);
    }

    private static void constants() {
        test("Exceptions", "NONE = -1: There is none.", x -> {
            due(CairnCipher.NONE, -1);
            due(x.walkerAt(0), -1);
        });
        test("Exceptions", "ROW = 0, COLUMN = 1, HIGH = 2, NEAR = 3, SHADE = 4: Hints.", x -> {
            int[] kinds = {ROW, COLUMN, HIGH, NEAR, SHADE};
            for (int i = 0; i < kinds.length; i++) {
                due(kinds[i], i);
            }
        });
    }
}
