import java.util.NoSuchElementException;

/** Each promise of the document by itself: ordinary inputs, the edges that it names, and wrong inputs. */
public final class PromisesTest {
    private static final int NONE = CairnCipher.NONE;
    private static final int ROW = CairnCipher.ROW, COLUMN = CairnCipher.COLUMN, HIGH = CairnCipher.HIGH,
            NEAR = CairnCipher.NEAR, SHADE = CairnCipher.SHADE;
    private static final Class<IndexOutOfBoundsException> INDEX = IndexOutOfBoundsException.class;
    private static final Class<IllegalArgumentException> ARGUMENT = IllegalArgumentException.class;
    private static final Class<IllegalStateException> STATE = IllegalStateException.class;
    private static final Class<NoSuchElementException> ELEMENT = NoSuchElementException.class;

    public static void main(String[] args) {
        newObject();
        setHeight();
        setHeightReachesTheDraft();
        close();
        hintCounts();
        hintRefusals();
        clearDraft();
        stage();
        stageRefusals();
        stageWithNeedlessHints();
        fitsAndPlaces();
        moves();
        spell();
        clearSpelled();
        cipherAtEvenPlace();
        cipherAtOddPlace();
        cipherOfWideLetters();
        cipherIsMadeAnew();
        cipherRefusals();
        pass();
        passToTheEnd();
        addWalker();
        send();
        sendDuringAStep();
        sendWithoutAWay();
        walkersTakeTheLowestPlace();
        walkersLookAnewAtEachStep();
        stepsKeepTheirTime();
        ways();
        wardens();
        wardensAreFew();
        answer();
        answerNeedsThePlace();
        answerInOrder();
        tell();
        tellRefusals();
        pointsHaveABottom();
        scoresAndOrder();
        walkersWithoutScores();
        Check.end();
    }

    private static void due(String call, Object got, Object want) {
        Check.due(call, got, want);
    }

    private static void dueThrow(String call, Class<? extends RuntimeException> want, Runnable run) {
        Check.dueThrow(call, want, run);
    }

    /** Promise 1, and the constants. */
    private static void newObject() {
        CairnCipher x = new CairnCipher();
        due("now of a new object", x.now(), 0);
        due("way over flat land", x.way(0, 63), 14);
        due("clearDraft of a new object", x.clearDraft(), 0);
        due("clearSpelled of a new object", x.clearSpelled(), 0);
        due("walkerAt of a new object", x.walkerAt(0), -1);
        dueThrow("placeOf of a new object", INDEX, () -> x.placeOf(0));
        dueThrow("at of a new object", INDEX, () -> x.at(0));
        dueThrow("sees of a new object", INDEX, () -> x.sees(0));
        due("NONE", NONE, -1);
        due("the hints", "" + ROW + COLUMN + HIGH + NEAR + SHADE, "01234");
        CairnCipher other = new CairnCipher();
        x.addWalker(3, 1);
        x.setHeight(1, 9);
        dueThrow("a walker of another object", INDEX, () -> other.at(0));
        due("the land of another object", other.way(0, 1), 1);
    }

    /** Promise 2. */
    private static void setHeight() {
        CairnCipher x = new CairnCipher();
        x.spell(0);
        due("setHeight ahead of all stages", x.setHeight(20, 5), 0);
        x.hint(HIGH, 5, 0, false);
        x.stage();
        x.hint(HIGH, 4, 0, false);
        x.stage();
        due("setHeight, both fixed no more", x.setHeight(30, 5), 2);
        due("setHeight, one fixed again", x.setHeight(20, 4), 1);
        due("setHeight, the other one fixed again", x.setHeight(20, 3), 1);
        due("setHeight to the same", x.setHeight(20, 3), 0);
        due("setHeight to 0", x.setHeight(20, 0), 0);
        due("setHeight to 9", x.setHeight(30, 9), 0);
        due("setHeight, none left", x.setHeight(30, 0), 2);
        due("setHeight of the last place", x.setHeight(63, 9), 2);
        due("setHeight of the first place", x.setHeight(0, 3), 0);
        dueThrow("setHeight(-1, 0)", INDEX, () -> x.setHeight(-1, 0));
        dueThrow("setHeight(64, 0)", INDEX, () -> x.setHeight(64, 0));
        dueThrow("setHeight(63, -1)", ARGUMENT, () -> x.setHeight(63, -1));
        dueThrow("setHeight(63, 10)", ARGUMENT, () -> x.setHeight(63, 10));
        dueThrow("setHeight(64, 10)", INDEX, () -> x.setHeight(64, 10));
        due("the place of a stage after refusals", x.placeOf(0), 63);
        due("way after refusals", x.way(62, 63), 10);
        due("moves of stage 0", x.moves(0), 4);
        due("moves of stage 1", x.moves(1), 4);
    }

    /** Promise 2, and 4: the draft has places on the land of now. */
    private static void setHeightReachesTheDraft() {
        CairnCipher x = new CairnCipher();
        due("hint of what is not yet", x.hint(HIGH, 3, 0, false), 0);
        due("setHeight does not count the draft", x.setHeight(7, 3), 0);
        x.spell(4);
        due("stage of it", x.stage(), 0);
        due("placeOf it", x.placeOf(0), 7);
        due("moves of it", x.moves(0), 0);
        x.hint(ROW, 1, 0, false);
        x.hint(COLUMN, 2, 0, false);
        due("hint, denied", x.hint(HIGH, 1, 0, true), 2);
        x.setHeight(1, 1);
        x.stage();
        due("placeOf what is denied", x.placeOf(1), 0);
        due("setHeight, what is denied holds", x.setHeight(0, 2), 1);
        due("placeOf then", x.placeOf(1), NONE);
        due("setHeight, another place", x.setHeight(1, 0), 1);
        due("placeOf then", x.placeOf(1), 1);
    }

    /** Promise 3. */
    private static void close() {
        CairnCipher x = new CairnCipher();
        int stage = Scenes.stageNear(x, 1, 5);
        due("close", x.close(1), true);
        due("way round", x.way(0, 2), 4);
        due("a stage stays at a closed place", x.placeOf(stage), 1);
        due("close again", x.close(1), false);
        due("way through", x.way(0, 2), 2);
        due("close the last", x.close(63), true);
        due("close the first", x.close(0), true);
        dueThrow("close(-1)", INDEX, () -> x.close(-1));
        dueThrow("close(64)", INDEX, () -> x.close(64));
    }

    private static int countOf(int kind, int value, int mark, boolean isDenial) {
        return new CairnCipher().hint(kind, value, mark, isDenial);
    }

    /** Promise 4, what each kind says. */
    private static void hintCounts() {
        due("ROW 3", countOf(ROW, 3, 0, false), 24);
        due("ROW 0", countOf(ROW, 0, 0, false), 0);
        due("ROW 14", countOf(ROW, 14, 63, false), 64);
        due("not ROW 3", countOf(ROW, 3, 0, true), 40);
        due("COLUMN 1", countOf(COLUMN, 1, 0, false), 8);
        due("not COLUMN 7", countOf(COLUMN, 7, 0, true), 8);
        due("HIGH 0", countOf(HIGH, 0, 0, false), 64);
        due("HIGH 1", countOf(HIGH, 1, 0, false), 0);
        due("not HIGH 14", countOf(HIGH, 14, 0, true), 64);
        due("NEAR 0", countOf(NEAR, 0, 63, false), 1);
        due("NEAR 1 of a corner", countOf(NEAR, 1, 7, false), 3);
        due("NEAR 1 of the middle", countOf(NEAR, 1, 27, false), 5);
        due("NEAR 2 of the middle", countOf(NEAR, 2, 27, false), 13);
        due("NEAR 13", countOf(NEAR, 13, 0, false), 63);
        due("NEAR 14", countOf(NEAR, 14, 0, false), 64);
        due("not NEAR 12", countOf(NEAR, 12, 56, true), 3);
        due("SHADE 0", countOf(SHADE, 0, 0, false), 32);
        due("SHADE 1", countOf(SHADE, 1, 0, false), 32);
        due("SHADE 2", countOf(SHADE, 2, 0, false), 0);
        CairnCipher x = new CairnCipher();
        due("SHADE and", x.hint(SHADE, 1, 0, false), 32);
        due("ROW and", x.hint(ROW, 1, 0, false), 4);
        due("COLUMN fix", x.hint(COLUMN, 2, 0, false), 1);
        Scenes.spellAnew(x, 0);
        x.stage();
        due("what SHADE, ROW and COLUMN fix", x.placeOf(0), 1);
        x.setHeight(9, 4);
        due("HIGH 4 at 4", x.hint(HIGH, 4, 0, false), 1);
    }

    /** Promise 4, wrong inputs. */
    private static void hintRefusals() {
        CairnCipher x = new CairnCipher();
        for (int kind = ROW; kind <= SHADE; kind++) {
            int of = kind;
            dueThrow("hint with mark -1", INDEX, () -> x.hint(of, 0, -1, false));
            dueThrow("hint with mark 64", INDEX, () -> x.hint(of, 0, 64, true));
        }
        dueThrow("hint of kind -1", ARGUMENT, () -> x.hint(-1, 0, 0, false));
        dueThrow("hint of kind 5", ARGUMENT, () -> x.hint(5, 0, 0, false));
        dueThrow("hint with value -1", ARGUMENT, () -> x.hint(NEAR, -1, 0, false));
        dueThrow("hint with value 15", ARGUMENT, () -> x.hint(ROW, 15, 0, true));
        dueThrow("hint, all wrong", INDEX, () -> x.hint(5, 15, 64, false));
        for (int i = 1; i <= 5; i++) {
            due("hint number " + i, x.hint(COLUMN, i, 0, true), 64 - 8 * i);
        }
        dueThrow("hint to 5", STATE, () -> x.hint(ROW, 0, 0, false));
        dueThrow("wrong hint to 5", ARGUMENT, () -> x.hint(ROW, 15, 0, false));
        dueThrow("hint of no place to 5", INDEX, () -> x.hint(ROW, 0, 64, false));
        due("clearDraft after refusals", x.clearDraft(), 5);
    }

    /** Promise 5. */
    private static void clearDraft() {
        CairnCipher x = new CairnCipher();
        x.hint(ROW, 0, 0, false);
        x.hint(ROW, 2, 0, false);
        due("clearDraft", x.clearDraft(), 2);
        due("clearDraft again", x.clearDraft(), 0);
        due("hint to an empty draft", x.hint(ROW, 1, 0, false), 8);
    }

    /** Promise 6. */
    private static void stage() {
        CairnCipher x = new CairnCipher();
        Scenes.spellAnew(x, 1, 2);
        for (int i = 0; i < 6; i++) {
            x.hint(NEAR, 0, 10 * i, false);
            due("stage number " + i, x.stage(), i);
            due("the draft then", x.clearDraft(), 0);
            due("the place of the stage", x.placeOf(i), 10 * i);
        }
        x.hint(NEAR, 0, 63, false);
        dueThrow("a seventh stage", STATE, () -> x.stage());
        due("the draft after it", x.clearDraft(), 1);
        due("the spelled text stays", x.clearSpelled(), 2);
        x.spell(7);
        due("the word stays when the text changes", Scenes.cipher(x, 0), "abc");
    }

    /** Promise 6, wrong times. */
    private static void stageRefusals() {
        CairnCipher x = new CairnCipher();
        x.spell(0);
        dueThrow("stage of nothing", STATE, () -> x.stage());
        x.hint(ROW, 1, 0, false);
        dueThrow("stage at eight places", STATE, () -> x.stage());
        x.hint(COLUMN, 0, 0, false);
        dueThrow("stage at no place", STATE, () -> x.stage());
        due("the draft after refusals", x.clearDraft(), 2);
        x.hint(NEAR, 0, 5, false);
        x.clearSpelled();
        dueThrow("stage without a word", STATE, () -> x.stage());
        x.spell(3);
        due("stage", x.stage(), 0);
        dueThrow("stage of the empty draft", STATE, () -> x.stage());
    }

    /** Promise 6: no hint is needless. */
    private static void stageWithNeedlessHints() {
        CairnCipher x = new CairnCipher();
        x.spell(0);
        x.hint(NEAR, 0, 5, false);
        due("the same again", x.hint(NEAR, 0, 5, false), 1);
        dueThrow("stage with a hint twice", STATE, () -> x.stage());
        x.clearDraft();
        x.hint(ROW, 3, 0, false);
        x.hint(NEAR, 0, 5, false);
        dueThrow("stage with a needless first hint", STATE, () -> x.stage());
        x.clearDraft();
        x.hint(ROW, 1, 0, false);
        x.hint(COLUMN, 1, 0, false);
        x.hint(SHADE, 0, 0, false);
        dueThrow("stage with a needless last hint", STATE, () -> x.stage());
        x.clearDraft();
        x.hint(ROW, 1, 0, false);
        x.hint(SHADE, 0, 0, false);
        x.hint(COLUMN, 1, 0, false);
        dueThrow("stage with a needless middle hint", STATE, () -> x.stage());
        x.clearDraft();
        x.hint(ROW, 2, 0, false);
        x.hint(ROW, 1, 0, true);
        x.hint(COLUMN, 3, 0, false);
        x.hint(COLUMN, 1, 0, true);
        due("five hints that are all needed", x.hint(SHADE, 1, 0, false), 1);
        due("stage of five hints", x.stage(), 0);
        due("where it stands", x.placeOf(0), 10);
    }

    /** Promises 7 to 9. */
    private static void fitsAndPlaces() {
        CairnCipher x = new CairnCipher();
        x.setHeight(0, 6);
        x.spell(0);
        x.hint(HIGH, 6, 0, false);
        x.stage();
        due("fits of one", x.fits(0), 1);
        due("placeOf the first place", x.placeOf(0), 0);
        due("placeByAll the first place", x.placeByAll(0), 0);
        x.setHeight(63, 7);
        due("fits of two", x.fits(0), 2);
        due("placeOf with two", x.placeOf(0), NONE);
        due("placeByAll with two", x.placeByAll(0), NONE);
        x.setHeight(31, 9);
        due("fits of three", x.fits(0), 3);
        due("placeByAll with three", x.placeByAll(0), NONE);
        x.setHeight(0, 5);
        x.setHeight(31, 5);
        due("placeOf the last place", x.placeOf(0), 63);
        due("placeByAll the last place", x.placeByAll(0), 63);
        x.setHeight(63, 5);
        due("fits of none", x.fits(0), 0);
        due("placeOf with none", x.placeOf(0), NONE);
        due("placeByAll with none", x.placeByAll(0), NONE);
        for (int stage : new int[] {-1, 1, 6, Integer.MIN_VALUE, Integer.MAX_VALUE}) {
            dueThrow("fits(" + stage + ")", INDEX, () -> x.fits(stage));
            dueThrow("placeOf(" + stage + ")", INDEX, () -> x.placeOf(stage));
            dueThrow("placeByAll(" + stage + ")", INDEX, () -> x.placeByAll(stage));
            dueThrow("moves(" + stage + ")", INDEX, () -> x.moves(stage));
        }
    }

    /** Promise 10. */
    private static void moves() {
        CairnCipher x = new CairnCipher();
        Scenes.stageNear(x, 12, 3);
        x.setHeight(2, 8);
        x.hint(HIGH, 7, 0, false);
        x.stage();
        due("moves of a new stage", x.moves(1), 0);
        x.setHeight(2, 7);
        due("moves, the same place", x.moves(1), 0);
        x.setHeight(3, 7);
        due("moves to nowhere", x.moves(1), 1);
        x.setHeight(4, 7);
        due("moves from nowhere to nowhere", x.moves(1), 1);
        x.setHeight(3, 0);
        x.setHeight(2, 0);
        due("moves to another place", x.moves(1), 2);
        due("moves of a stage that rests on no height", x.moves(0), 0);
        CairnCipher y = new CairnCipher();
        y.spell(1);
        y.hint(ROW, 1, 0, false);
        y.hint(COLUMN, 2, 0, false);
        y.hint(HIGH, 1, 0, false);
        y.setHeight(2, 1);
        y.setHeight(8, 1);
        y.setHeight(0, 1);
        y.stage();
        y.setHeight(1, 1);
        y.setHeight(0, 0);
        y.setHeight(9, 9);
        due("moves with three hints", y.moves(0), 2);
        due("place with three hints", y.placeOf(0), 1);
    }

    /** Promise 11. */
    private static void spell() {
        CairnCipher x = new CairnCipher();
        due("spell(0)", x.spell(0), 1);
        due("spell(25)", x.spell(25), 2);
        due("spell(26)", x.spell(26), 4);
        dueThrow("spell(-1)", INDEX, () -> x.spell(-1));
        dueThrow("spell(27)", INDEX, () -> x.spell(27));
        due("spell(26) again", x.spell(26), 6);
        due("spell(1)", x.spell(1), 7);
        dueThrow("a sixth letter", STATE, () -> x.spell(1));
        dueThrow("a sixth letter that is none", INDEX, () -> x.spell(27));
        due("clearSpelled after refusals", x.clearSpelled(), 5);
    }

    /** Promise 12. */
    private static void clearSpelled() {
        CairnCipher x = new CairnCipher();
        x.spell(26);
        x.spell(26);
        due("clearSpelled counts letters", x.clearSpelled(), 2);
        due("clearSpelled again", x.clearSpelled(), 0);
        due("spell from the start", x.spell(26), 2);
    }

    /** Promises 13 and 14. */
    private static void cipherAtEvenPlace() {
        CairnCipher x = new CairnCipher();
        Scenes.stageNear(x, 20, 7, 7);
        due("the cipher at 20, at the end", Scenes.cipher(x, 0), "aau");
        Scenes.stageNear(x, 0, 3, 4);
        due("the cipher at 0, at the start", Scenes.cipher(x, 1), "ade");
        Scenes.stageNear(x, 30, 0, 1, 2, 3);
        due("the cipher at 30, at the start", Scenes.cipher(x, 2), "ddefg");
        Scenes.stageNear(x, 28, 0, 1, 2, 3, 4);
        due("the cipher at 28, inside", Scenes.cipher(x, 3), "bcdebf");
    }

    /** Promises 13 and 14: an odd place turns the letters round. */
    private static void cipherAtOddPlace() {
        CairnCipher x = new CairnCipher();
        Scenes.stageNear(x, 25, 0, 2);
        due("the cipher at 25", Scenes.cipher(x, 0), "azz");
        Scenes.stageNear(x, 63, 0, 1, 2, 3, 4);
        due("the cipher at 63", Scenes.cipher(x, 1), "nmljkj");
        Scenes.stageNear(x, 1, 5);
        due("the cipher at 1", Scenes.cipher(x, 2), "gb");
        Scenes.stageNear(x, 29, 24, 23, 22, 21, 20);
        due("the cipher at 29", Scenes.cipher(x, 3), "wxyz\uD83D\uDDFFc");
    }

    /** Promises 13 and 14: the letter 26 is a pair of chars, turned round or not. */
    private static void cipherOfWideLetters() {
        CairnCipher x = new CairnCipher();
        Scenes.stageNear(x, 26, 0);
        due("cipherLength at 26", x.cipherLength(0), 4);
        due("the cipher at 26", Scenes.cipher(x, 0), "\uD83D\uDDFF\uD83D\uDDFF");
        Scenes.stageNear(x, 53, 0, 1);
        due("cipherLength at 53", x.cipherLength(1), 5);
        due("the cipher at 53", Scenes.cipher(x, 1), "a\uD83D\uDDFF\uD83D\uDDFF");
        Scenes.stageNear(x, 27, 26, 26, 26, 26, 26);
        due("cipherLength of five wide ones", x.cipherLength(2), 11);
        due("the letter inserted among them", (int) x.cipherAt(2, 6), (int) 'a');
        due("the char before it", (int) x.cipherAt(2, 5), 0xDDFF);
        due("the char after it", (int) x.cipherAt(2, 7), 0xD83D);
        due("the last char", (int) x.cipherAt(2, 10), 0xDDFF);
        dueThrow("a char behind it", ELEMENT, () -> x.cipherAt(2, 11));
    }

    /** Promises 13 and 14: the cipher follows the place. */
    private static void cipherIsMadeAnew() {
        CairnCipher x = new CairnCipher();
        x.setHeight(2, 3);
        x.hint(HIGH, 3, 0, false);
        Scenes.spellAnew(x, 0, 1, 2);
        x.stage();
        due("the cipher at 2", Scenes.cipher(x, 0), "cdce");
        x.setHeight(3, 4);
        dueThrow("cipherLength nowhere", ELEMENT, () -> x.cipherLength(0));
        dueThrow("cipherAt nowhere", ELEMENT, () -> x.cipherAt(0, 0));
        x.setHeight(2, 0);
        due("the cipher at 3", Scenes.cipher(x, 0), "fedd");
    }

    /** Promises 13 and 14, wrong inputs. */
    private static void cipherRefusals() {
        CairnCipher x = new CairnCipher();
        dueThrow("cipherLength(0) ahead of it", INDEX, () -> x.cipherLength(0));
        Scenes.stageNear(x, 4, 4);
        dueThrow("cipherLength(1)", INDEX, () -> x.cipherLength(1));
        dueThrow("cipherLength(-1)", INDEX, () -> x.cipherLength(-1));
        dueThrow("cipherAt(1, 0)", INDEX, () -> x.cipherAt(1, 0));
        dueThrow("cipherAt(-1, -1)", INDEX, () -> x.cipherAt(-1, -1));
        dueThrow("cipherAt(0, -1)", ELEMENT, () -> x.cipherAt(0, -1));
        dueThrow("cipherAt(0, least)", ELEMENT, () -> x.cipherAt(0, Integer.MIN_VALUE));
        dueThrow("cipherAt(0, 2)", ELEMENT, () -> x.cipherAt(0, 2));
        dueThrow("cipherAt(0, greatest)", ELEMENT, () -> x.cipherAt(0, Integer.MAX_VALUE));
        due("the cipher at 4", Scenes.cipher(x, 0), "ei");
    }

    /** Promises 15 and 16. */
    private static void pass() {
        CairnCipher x = new CairnCipher();
        dueThrow("pass(0)", ARGUMENT, () -> x.pass(0));
        dueThrow("pass(-5)", ARGUMENT, () -> x.pass(-5));
        dueThrow("pass(61)", ARGUMENT, () -> x.pass(61));
        due("now after refusals", x.now(), 0);
        due("pass without walkers", x.pass(60), 0);
        due("now", x.now(), 60);
        x.addWalker(0, 1);
        x.addWalker(0, 2);
        x.addWalker(0, 5);
        x.addWalker(7, 1);
        x.send(0, 2);
        x.send(1, 2);
        x.send(2, 2);
        due("pass(1)", x.pass(1), 0);
        due("at after one minute", x.at(0), 1);
        due("at before the step is over", x.at(1), 0);
        due("pass to the first one's goal", x.pass(1), 1);
        due("at then", x.at(0), 2);
        due("rests then", x.rests(0), true);
        due("at of the second one", x.at(1), 1);
        due("rests of the second one", x.rests(1), false);
        due("pass to the minute before", x.pass(7), 1);
        due("at of the third one", x.at(2), 1);
        due("pass to the third one's goal", x.pass(1), 1);
        due("at of the third one then", x.at(2), 2);
        due("pass when all rest", x.pass(60), 0);
        x.send(0, 3);
        x.send(1, 3);
        x.send(2, 3);
        due("pass to three goals", x.pass(60), 3);
        due("the one that was not sent", x.at(3), 7);
        due("now in the end", x.now(), 190);
    }

    /** Promise 15: the minute 5000 is the last one. */
    private static void passToTheEnd() {
        CairnCipher x = new CairnCipher();
        x.addWalker(0, 1);
        for (int i = 0; i < 83; i++) {
            x.pass(60);
        }
        x.send(0, 1);
        dueThrow("pass(21) from 4980", STATE, () -> x.pass(21));
        dueThrow("pass(61) from 4980", ARGUMENT, () -> x.pass(61));
        due("now after refusals", x.now(), 4980);
        due("at after refusals", x.at(0), 0);
        due("pass(20) from 4980", x.pass(20), 1);
        due("now", x.now(), 5000);
        dueThrow("pass(1) from 5000", STATE, () -> x.pass(1));
        dueThrow("pass(0) from 5000", ARGUMENT, () -> x.pass(0));
    }

    /** Promises 17, 19 and 20. */
    private static void addWalker() {
        CairnCipher x = new CairnCipher();
        x.close(63);
        dueThrow("addWalker(-1, 1)", INDEX, () -> x.addWalker(-1, 1));
        dueThrow("addWalker(64, 0)", INDEX, () -> x.addWalker(64, 0));
        dueThrow("addWalker(0, 0)", ARGUMENT, () -> x.addWalker(0, 0));
        dueThrow("addWalker(0, 6)", ARGUMENT, () -> x.addWalker(0, 6));
        dueThrow("at(0) after refusals", INDEX, () -> x.at(0));
        due("addWalker to a closed place", x.addWalker(63, 5), 0);
        due("at", x.at(0), 63);
        due("rests", x.rests(0), true);
        for (int i = 1; i < 6; i++) {
            due("addWalker number " + i, x.addWalker(i, 1), i);
        }
        dueThrow("a seventh walker", STATE, () -> x.addWalker(0, 1));
        dueThrow("a seventh walker without a pace", ARGUMENT, () -> x.addWalker(0, 0));
        dueThrow("a seventh walker nowhere", INDEX, () -> x.addWalker(64, 1));
        for (int walker : new int[] {-1, 6, Integer.MAX_VALUE}) {
            dueThrow("at(" + walker + ")", INDEX, () -> x.at(walker));
            dueThrow("rests(" + walker + ")", INDEX, () -> x.rests(walker));
            dueThrow("send(" + walker + ", 0)", INDEX, () -> x.send(walker, 0));
            dueThrow("solved(" + walker + ")", INDEX, () -> x.solved(walker));
            dueThrow("score(" + walker + ")", INDEX, () -> x.score(walker));
            dueThrow("scoreAnew(" + walker + ")", INDEX, () -> x.scoreAnew(walker));
        }
        due("at of the last one", x.at(5), 5);
    }

    /** Promises 18 and 20. */
    private static void send() {
        CairnCipher x = new CairnCipher();
        x.addWalker(0, 2);
        due("send to where it is", x.send(0, 0), 0);
        due("rests then", x.rests(0), true);
        x.setHeight(1, 4);
        due("send to a neighbour", x.send(0, 1), 3 + 2);
        due("rests when sent", x.rests(0), false);
        due("send back without a step", x.send(0, 0), 0);
        due("rests again", x.rests(0), true);
        due("send far", x.send(0, 63), 14);
        dueThrow("send(1, 5)", INDEX, () -> x.send(1, 5));
        dueThrow("send(0, 64)", INDEX, () -> x.send(0, 64));
        dueThrow("send(0, -1)", INDEX, () -> x.send(0, -1));
        due("pass halfway", x.pass(14), 0);
        due("at halfway", Math.abs(x.at(0) / 8) + x.at(0) % 8, 7);
        due("pass to the goal", x.pass(14), 1);
        due("at the goal", x.at(0), 63);
    }

    /** Promise 18: a step that has begun is ended first. */
    private static void sendDuringAStep() {
        CairnCipher x = new CairnCipher();
        x.addWalker(8, 3);
        due("send", x.send(0, 10), 2);
        x.pass(1);
        due("send to where the step began", x.send(0, 8), 0);
        due("rests not, it has a step", x.rests(0), false);
        due("pass to the step's end", x.pass(2), 0);
        due("at the step's end", x.at(0), 9);
        due("rests not, it has a goal", x.rests(0), false);
        due("pass back", x.pass(3), 1);
        due("at back", x.at(0), 8);
        x.send(0, 10);
        x.pass(2);
        due("send to the step's end", x.send(0, 9), 1);
        due("pass there", x.pass(1), 1);
        due("rests there", x.rests(0), true);
        x.send(0, 11);
        x.pass(3);
        due("send from between two steps to where it is", x.send(0, 10), 0);
        due("rests at once", x.rests(0), true);
        due("pass no more", x.pass(60), 0);
        due("at stays", x.at(0), 10);
    }

    /** Promises 18 and 20: without a way the walker rests when it would begin a step. */
    private static void sendWithoutAWay() {
        CairnCipher x = new CairnCipher();
        x.addWalker(0, 1);
        x.close(1);
        x.close(8);
        due("send without a way", x.send(0, 9), NONE);
        due("rests not yet", x.rests(0), false);
        due("pass", x.pass(1), 0);
        due("rests then", x.rests(0), true);
        x.close(8);
        due("pass when the way is open", x.pass(5), 0);
        due("at stays, the goal is lost", x.at(0), 0);
        x.close(8);
        due("send again", x.send(0, 9), NONE);
        x.close(8);
        due("pass when the way opened in time", x.pass(2), 1);
        due("at the goal", x.at(0), 9);
        due("send out of a closed place", x.close(9), true);
        due("its way", x.send(0, 10), 1);
        due("pass out of it", x.pass(1), 1);
        due("send into it", x.send(0, 9), NONE);
    }

    /** The document's "of several that to the lowest place", read as the lowest number. */
    private static void walkersTakeTheLowestPlace() {
        CairnCipher x = new CairnCipher();
        int[] from = {0, 63, 9, 14, 49};
        int[] to = {9, 54, 0, 7, 56};
        int[] over = {1, 55, 1, 6, 48};
        for (int i = 0; i < from.length; i++) {
            x.addWalker(from[i], 1);
            x.send(i, to[i]);
        }
        x.pass(1);
        for (int i = 0; i < from.length; i++) {
            due("the first step from " + from[i], x.at(i), over[i]);
        }
        due("all goals", x.pass(1), 5);
    }

    /** Terms, of a step: it is chosen when it begins, on the land of then. */
    private static void walkersLookAnewAtEachStep() {
        CairnCipher x = new CairnCipher();
        x.addWalker(0, 1);
        due("send over flat land", x.send(0, 2), 2);
        x.setHeight(1, 9);
        x.pass(1);
        due("the first step goes round", x.at(0), 8);
        x.close(9);
        x.pass(1);
        due("the second step goes round again", x.at(0), 16);
        x.setHeight(1, 0);
        x.close(9);
        x.pass(1);
        due("the third step, of the same the lowest", x.at(0), 8);
        due("pass to the goal", x.pass(3), 1);
        due("at the goal", x.at(0), 2);
        x.send(0, 4);
        x.pass(1);
        x.close(4);
        due("pass when the goal is closed", x.pass(9), 0);
        due("at where no way led on", x.at(0), 3);
        due("rests there", x.rests(0), true);
    }

    /** Terms, of a step: it takes its cost of when it began times the pace, and ends in any case. */
    private static void stepsKeepTheirTime() {
        CairnCipher x = new CairnCipher();
        x.setHeight(9, 9);
        x.addWalker(8, 5);
        x.addWalker(8, 4);
        due("send up", x.send(0, 9), 10);
        x.send(1, 9);
        due("pass(39)", x.pass(39), 0);
        due("pass(1) for the pace 4", x.pass(1), 1);
        x.setHeight(9, 0);
        x.close(9);
        due("pass(9)", x.pass(9), 0);
        due("at where the step began", x.at(0), 8);
        due("pass(1) for the pace 5", x.pass(1), 1);
        due("at the closed place", x.at(0), 9);
        x.close(9);
        due("send over flat land", x.send(0, 10), 1);
        x.setHeight(10, 9);
        x.pass(1);
        x.setHeight(10, 0);
        due("pass(48) of a step of 50", x.pass(48), 0);
        due("pass(1) to its end", x.pass(1), 1);
    }

    /** The way to another goal between them shows that each finds its own. */
    private static void bothWays(CairnCipher x, int place, int goal, int sum) {
        due("way(" + place + ", " + goal + ")", x.way(place, goal), sum);
        x.way(place, (goal + 1) % 64);
        due("wayByRounds(" + place + ", " + goal + ")", x.wayByRounds(place, goal), sum);
        x.wayByRounds(place, (goal + 2) % 64);
    }

    /** Promises 21 and 22. */
    private static void ways() {
        CairnCipher x = new CairnCipher();
        bothWays(x, 0, 0, 0);
        bothWays(x, 0, 63, 14);
        bothWays(x, 7, 56, 14);
        bothWays(x, 7, 8, 8);
        x.setHeight(9, 9);
        bothWays(x, 8, 9, 10);
        bothWays(x, 9, 8, 10);
        bothWays(x, 8, 10, 4);
        x.setHeight(1, 4);
        x.setHeight(17, 3);
        bothWays(x, 8, 10, 6);
        bothWays(x, 1, 9, 6);
        bothWays(x, 9, 17, 7);
        bothWays(x, 1, 17, 5 + 1 + 1 + 4);
        x.close(1);
        bothWays(x, 1, 0, 5);
        bothWays(x, 0, 1, NONE);
        bothWays(x, 1, 1, 0);
        x.close(8);
        bothWays(x, 0, 63, NONE);
        bothWays(x, 63, 0, NONE);
        bothWays(x, 8, 63, 13);
        for (int place : new int[] {-1, 64, Integer.MIN_VALUE, Integer.MAX_VALUE}) {
            dueThrow("way(" + place + ", 0)", INDEX, () -> x.way(place, 0));
            dueThrow("way(0, " + place + ")", INDEX, () -> x.way(0, place));
            dueThrow("wayByRounds(" + place + ", 0)", INDEX, () -> x.wayByRounds(place, 0));
            dueThrow("wayByRounds(0, " + place + ")", INDEX, () -> x.wayByRounds(0, place));
        }
        waysThroughAMaze();
    }

    /** A way along all rows, open at one end of each by turns, takes as many rounds as there can be. */
    private static void waysThroughAMaze() {
        CairnCipher x = new CairnCipher();
        Scenes.maze(x);
        bothWays(x, 0, 48, 28 + 6);
        bothWays(x, 48, 0, 28 + 6);
        bothWays(x, 0, 56, 28 + 7);
        bothWays(x, 0, 57, NONE);
        x.setHeight(20, 9);
        bothWays(x, 0, 48, 28 + 6 + 18);
    }

    /** Promises 23 and 24. */
    private static void wardens() {
        CairnCipher x = new CairnCipher();
        due("addWarden", x.addWarden(27), 0);
        due("sees none", x.sees(0), 0);
        x.addWalker(27, 1);
        x.addWalker(51, 1);
        x.addWalker(59, 1);
        x.addWalker(44, 1);
        x.addWalker(45, 1);
        x.addWalker(0, 3);
        due("sees up to three steps off", x.sees(0), 0b1011);
        due("addWarden elsewhere", x.addWarden(8), 1);
        due("sees one", x.sees(1), 0b100000);
        for (int place = 0; place < 64; place += 9) {
            x.setHeight(place, 9);
        }
        x.close(27);
        due("sees whatever the heights are", x.sees(0), 0b1011);
        x.addWarden(4);
        due("sees none four steps off", x.sees(2), 0);
        x.send(4, 47);
        x.send(2, 51);
        x.pass(1);
        due("sees who came", x.sees(0), 0b1111);
        x.addWarden(3);
        due("sees three steps along", x.sees(3), 0b100000 | 1);
        x.send(5, 1);
        x.pass(1);
        due("sees a walker where its step began", x.sees(2), 0);
        x.pass(29);
        due("sees it when the step is over", x.sees(2), 0b100000);
    }

    /** Promises 23 and 24, wrong inputs. */
    private static void wardensAreFew() {
        CairnCipher x = new CairnCipher();
        dueThrow("addWarden(-1)", INDEX, () -> x.addWarden(-1));
        dueThrow("addWarden(64)", INDEX, () -> x.addWarden(64));
        for (int i = 0; i < 4; i++) {
            int next = i;
            dueThrow("sees(" + i + ") ahead of it", INDEX, () -> x.sees(next));
            due("addWarden number " + i, x.addWarden(21 * i), i);
        }
        dueThrow("a fifth warden", STATE, () -> x.addWarden(0));
        dueThrow("a fifth warden nowhere", INDEX, () -> x.addWarden(64));
        dueThrow("sees(4)", INDEX, () -> x.sees(4));
        dueThrow("sees(-1)", INDEX, () -> x.sees(-1));
        x.addWalker(63, 1);
        due("the last warden sees", x.sees(3), 1);
        due("the first one does not", x.sees(0), 0);
    }

    /** Promises 25, 27, 28 and 29. */
    private static void answer() {
        CairnCipher x = new CairnCipher();
        Scenes.stageNear(x, 5, 1, 26);
        x.addWalker(5, 1);
        due("answer with the word", x.answer(0, 0), true);
        due("score", x.score(0), 100);
        due("solved", x.solved(0), 1);
        dueThrow("answer again", STATE, () -> x.answer(0, 0));
        x.addWalker(5, 1);
        int[][] wrongs = {{}, {1}, {26, 1}, {1, 25}, {1, 26, 26}, {1, 26, 0}};
        for (int[] wrong : wrongs) {
            Scenes.spellAnew(x, wrong);
            due("answer with " + wrong.length + " letters", x.answer(1, 0), false);
        }
        due("solved by wrong answers", x.solved(1), 0);
        due("score by wrong answers", x.score(1), 0);
        Scenes.spellAnew(x, 1, 26);
        due("answer right at last", x.answer(1, 0), true);
        due("score after six wrong ones", x.score(1), 40);
        due("scoreAnew after six wrong ones", x.scoreAnew(1), 40);
        due("the other one's score", x.score(0), 100);
        due("the other one's scoreAnew", x.scoreAnew(0), 100);
        due("the spelled text stays", x.clearSpelled(), 2);
        dueThrow("answer(2, 0)", INDEX, () -> x.answer(2, 0));
        dueThrow("answer(-1, 0)", INDEX, () -> x.answer(-1, 0));
        dueThrow("answer(0, 1)", INDEX, () -> x.answer(0, 1));
        dueThrow("answer(0, -1)", INDEX, () -> x.answer(0, -1));
    }

    /** Promise 25: the walker rests at the place at which the stage stands. */
    private static void answerNeedsThePlace() {
        CairnCipher x = new CairnCipher();
        x.setHeight(9, 2);
        x.hint(HIGH, 2, 0, false);
        Scenes.spellAnew(x, 4);
        x.stage();
        x.addWalker(8, 1);
        dueThrow("answer beside the stage", STATE, () -> x.answer(0, 0));
        x.send(0, 9);
        x.pass(3);
        x.send(0, 10);
        dueThrow("answer when sent on", STATE, () -> x.answer(0, 0));
        x.pass(1);
        dueThrow("answer during a step", STATE, () -> x.answer(0, 0));
        x.pass(2);
        x.send(0, 9);
        x.pass(3);
        x.setHeight(20, 3);
        dueThrow("answer to a stage that stands nowhere", STATE, () -> x.answer(0, 0));
        x.setHeight(9, 0);
        dueThrow("answer where the stage was", STATE, () -> x.answer(0, 0));
        x.setHeight(20, 0);
        x.setHeight(9, 9);
        due("answer when the stage is back", x.answer(0, 0), true);
        due("score without a wrong answer", x.score(0), 100);
        due("scoreAnew without a wrong answer", x.scoreAnew(0), 100);
    }

    /** Promises 25 and 27: the stages are solved in their order. */
    private static void answerInOrder() {
        CairnCipher x = new CairnCipher();
        Scenes.stageNear(x, 1, 0);
        Scenes.stageNear(x, 1, 0);
        Scenes.stageNear(x, 1, 0);
        x.addWalker(1, 1);
        x.addWalker(1, 1);
        dueThrow("answer to the second one first", STATE, () -> x.answer(0, 1));
        due("answer to the first one", x.answer(0, 0), true);
        dueThrow("answer to the third one", STATE, () -> x.answer(0, 2));
        dueThrow("answer to the second one by another", STATE, () -> x.answer(1, 1));
        Scenes.spellAnew(x, 3);
        due("answer to the second one, wrong", x.answer(0, 1), false);
        dueThrow("answer to the third one after that", STATE, () -> x.answer(0, 2));
        Scenes.spellAnew(x, 0);
        due("answer to the second one", x.answer(0, 1), true);
        due("answer to the third one at last", x.answer(0, 2), true);
        due("solved", x.solved(0), 3);
        due("solved by the other", x.solved(1), 0);
        due("score", x.score(0), 290);
        due("scoreAnew", x.scoreAnew(0), 290);
    }

    /** Promises 26, 28 and 29. */
    private static void tell() {
        CairnCipher x = new CairnCipher();
        Scenes.stageNear(x, 9, 2);
        Scenes.stageNear(x, 9, 2);
        x.addWalker(9, 1);
        x.addWalker(9, 1);
        x.addWalker(10, 1);
        x.addWalker(1, 1);
        x.answer(0, 0);
        x.answer(0, 1);
        due("tell one at the same place", x.tell(0, 1, 0), 50);
        due("tell it the other word", x.tell(0, 1, 1), 50);
        due("tell one at a neighbour", x.tell(0, 2, 0), 50);
        due("tell one at another neighbour", x.tell(0, 3, 1), 50);
        due("the score of the one who told", x.score(0), 200);
        due("the score of one who was told", x.score(1), 0);
        Scenes.spellAnew(x, 3);
        x.answer(1, 0);
        x.answer(1, 0);
        x.answer(1, 0);
        Scenes.spellAnew(x, 2);
        x.answer(1, 0);
        due("score, told and thrice wrong", x.score(1), 35);
        due("scoreAnew, told and thrice wrong", x.scoreAnew(1), 35);
        x.answer(1, 1);
        due("score, told both", x.score(1), 85);
        due("scoreAnew, told both", x.scoreAnew(1), 85);
        x.send(3, 9);
        x.pass(1);
        x.answer(3, 0);
        due("score, told the other word alone", x.score(3), 100);
        due("tell by one who was told", x.tell(1, 2, 1), 50);
        Scenes.spellAnew(x, 3);
        x.answer(3, 1);
        Scenes.spellAnew(x, 2);
        x.answer(3, 1);
        due("score then", x.score(3), 145);
        due("scoreAnew then", x.scoreAnew(3), 145);
        due("the score of who told both", x.scoreAnew(0), 200);
        x.addWalker(9, 1);
        Scenes.spellAnew(x, 3);
        x.answer(4, 0);
        due("tell after a wrong answer", x.tell(0, 4, 0), 45);
    }

    /** Promise 26, wrong inputs. */
    private static void tellRefusals() {
        CairnCipher x = new CairnCipher();
        Scenes.stageNear(x, 9, 2);
        Scenes.stageNear(x, 9, 2);
        x.addWalker(9, 1);
        x.addWalker(9, 1);
        x.addWalker(18, 1);
        dueThrow("tell what is not solved", STATE, () -> x.tell(0, 1, 0));
        x.answer(0, 0);
        dueThrow("tell another stage", STATE, () -> x.tell(0, 1, 1));
        dueThrow("tell by one who has not solved it", STATE, () -> x.tell(1, 0, 0));
        dueThrow("tell one two steps off", STATE, () -> x.tell(0, 2, 0));
        dueThrow("tell oneself", ARGUMENT, () -> x.tell(0, 0, 0));
        dueThrow("tell oneself what is not solved", ARGUMENT, () -> x.tell(2, 2, 0));
        dueThrow("tell oneself of no stage", INDEX, () -> x.tell(0, 0, 2));
        dueThrow("tell of no stage", INDEX, () -> x.tell(0, 1, -1));
        dueThrow("tell no one", INDEX, () -> x.tell(0, 3, 0));
        dueThrow("tell by no one", INDEX, () -> x.tell(-1, 1, 0));
        dueThrow("tell by no one to no one", INDEX, () -> x.tell(3, 3, 0));
        due("tell", x.tell(0, 1, 0), 50);
        dueThrow("tell again", STATE, () -> x.tell(0, 1, 0));
        x.answer(1, 0);
        dueThrow("tell one who has solved it", STATE, () -> x.tell(0, 1, 0));
        dueThrow("tell back", STATE, () -> x.tell(1, 0, 0));
        due("score after refusals", x.score(0), 100);
        due("scoreAnew after refusals", x.scoreAnew(0), 100);
        due("score of one who was told", x.score(1), 50);
        x.send(2, 10);
        x.pass(1);
        due("tell one who came near", x.tell(0, 2, 0), 50);
    }

    /** Terms: 10 points at least, then half of them. */
    private static void pointsHaveABottom() {
        CairnCipher x = new CairnCipher();
        Scenes.stageNear(x, 9, 2);
        for (int i = 0; i < 4; i++) {
            x.addWalker(9, 1);
        }
        x.answer(0, 0);
        Scenes.spellAnew(x, 3);
        for (int i = 0; i < 9; i++) {
            x.answer(1, 0);
        }
        for (int i = 0; i < 12; i++) {
            x.answer(2, 0);
        }
        for (int i = 0; i < 8; i++) {
            x.answer(3, 0);
        }
        due("tell one with twelve wrong answers", x.tell(0, 2, 0), 5);
        Scenes.spellAnew(x, 2);
        for (int i = 1; i < 4; i++) {
            x.answer(i, 0);
        }
        due("score with nine", x.score(1), 10);
        due("scoreAnew with nine", x.scoreAnew(1), 10);
        due("score with twelve, told", x.score(2), 5);
        due("scoreAnew with twelve, told", x.scoreAnew(2), 5);
        due("score with eight", x.score(3), 20);
        due("scoreAnew with eight", x.scoreAnew(3), 20);
    }

    /** Promises 28 to 30. */
    private static void scoresAndOrder() {
        CairnCipher x = new CairnCipher();
        Scenes.stageNear(x, 9, 2);
        for (int i = 0; i < 5; i++) {
            x.addWalker(9, 1);
        }
        x.answer(2, 0);
        x.answer(4, 0);
        Scenes.spellAnew(x, 0);
        x.answer(1, 0);
        Scenes.spellAnew(x, 2);
        x.answer(1, 0);
        int[] order = {2, 4, 1, 0, 3};
        for (int i = 0; i < order.length; i++) {
            due("walkerAt(" + i + ")", x.walkerAt(i), order[i]);
        }
        due("walkerAt(5)", x.walkerAt(5), NONE);
        due("walkerAt(-1)", x.walkerAt(-1), NONE);
        due("walkerAt(least)", x.walkerAt(Integer.MIN_VALUE), NONE);
        due("walkerAt(greatest)", x.walkerAt(Integer.MAX_VALUE), NONE);
        int[] scores = {0, 90, 100, 0, 100};
        for (int i = 0; i < scores.length; i++) {
            due("score(" + i + ")", x.score(i), scores[i]);
            due("scoreAnew(" + i + ")", x.scoreAnew(i), scores[i]);
        }
    }

    /** Promises 27 to 30 of walkers that have not answered. */
    private static void walkersWithoutScores() {
        CairnCipher x = new CairnCipher();
        x.addWalker(1, 1);
        x.addWalker(2, 1);
        due("solved", x.solved(1), 0);
        due("score", x.score(1), 0);
        due("scoreAnew", x.scoreAnew(1), 0);
        due("walkerAt(0)", x.walkerAt(0), 0);
        due("walkerAt(1)", x.walkerAt(1), 1);
        due("walkerAt(2)", x.walkerAt(2), NONE);
    }
}
