import java.util.ArrayList;
import java.util.Collections;
import java.util.List;
import java.util.function.Supplier;

/**
 * A row of 385 calls at most on an object, whose answers show what it holds: first what can be asked, then what calls
 * bring to light that go on from it. The scenes ahead of it must leave that many of the 512 calls. Calls that may be
 * refused come late: what a refusal changes by mistake, these would change in the twin too.
 */
final class Probe {
    private static final int STAGES = 6, WALKERS = 6, WARDENS = 4, PLACES = 64;

    private final CairnCipher x;
    private final List<String> answers = new ArrayList<>();

    private Probe(CairnCipher x) {
        this.x = x;
    }

    static List<String> of(CairnCipher x) {
        Probe probe = new Probe(x);
        probe.stages();
        probe.walkers();
        probe.draftAndText();
        probe.land();
        probe.steps();
        for (int i = 0; i < 6; i++) {
            probe.answerRight(i / 2);
        }
        probe.ask("addWalker", () -> x.addWalker(5, 1));
        probe.ask("addWarden", () -> x.addWarden(5));
        return probe.answers;
    }

    static String outcome(Supplier<Object> call) {
        try {
            return String.valueOf(call.get());
        } catch (RuntimeException e) {
            return "throws " + e.getClass().getName() + (Check.isThrownByTheClass(e) ? "" : " of the library's");
        }
    }

    private String ask(String name, Supplier<Object> call) {
        String answer = outcome(call);
        answers.add(name + " -> " + answer);
        return answer;
    }

    private void stages() {
        for (int i = 0; i < STAGES; i++) {
            int stage = i;
            ask("fits " + i, () -> x.fits(stage));
            ask("placeOf " + i, () -> x.placeOf(stage));
            ask("placeByAll " + i, () -> x.placeByAll(stage));
            ask("moves " + i, () -> x.moves(stage));
            ask("cipherLength " + i, () -> x.cipherLength(stage));
            for (int at = 0; at < 2; at++) {
                int index = at;
                ask("cipherAt " + i + " " + at, () -> (int) x.cipherAt(stage, index));
            }
        }
    }

    private void walkers() {
        ask("now", () -> x.now());
        for (int i = 0; i < WALKERS; i++) {
            int walker = i;
            ask("at " + i, () -> x.at(walker));
            ask("rests " + i, () -> x.rests(walker));
            ask("solved " + i, () -> x.solved(walker));
            ask("score " + i, () -> x.score(walker));
            ask("scoreAnew " + i, () -> x.scoreAnew(walker));
            ask("walkerAt " + i, () -> x.walkerAt(walker));
        }
        for (int i = 0; i < WARDENS; i++) {
            int warden = i;
            ask("sees " + i, () -> x.sees(warden));
        }
    }

    /** The text is shown as the word of one more stage, if there can be one. */
    private void draftAndText() {
        ask("spell", () -> x.spell(26));
        ask("hint", () -> x.hint(CairnCipher.ROW, 14, 0, false));
        ask("clearDraft", () -> x.clearDraft());
        ask("hint of the first place", () -> x.hint(CairnCipher.NEAR, 0, 0, false));
        String made = ask("stage of the text", () -> x.stage());
        int stage = made.matches("\\d") ? Integer.parseInt(made) : CairnCipher.NONE;
        for (int i = 0; i < 12; i++) {
            int at = i;
            ask("the text's char " + i, () -> (int) x.cipherAt(stage, at));
        }
        ask("clearSpelled", () -> x.clearSpelled());
        ask("clearDraft again", () -> x.clearDraft());
    }

    /** How many places have each height, and whether each can be entered, with the cost of that. */
    private void land() {
        for (int i = 1; i <= 9; i++) {
            int height = i;
            ask("HIGH " + i, () -> x.hint(CairnCipher.HIGH, height, 0, false));
            ask("clearDraft", () -> x.clearDraft());
        }
        for (int i = 0; i < PLACES; i++) {
            int place = i;
            ask("way into " + i, () -> x.way(place % 8 == 7 ? place - 1 : place + 1, place));
        }
    }

    private void steps() {
        for (int i = 0; i < 8; i++) {
            ask("pass", () -> x.pass(1));
            for (int j = 0; j < 4; j++) {
                int walker = j;
                ask("at " + j, () -> x.at(walker));
            }
        }
        ask("pass a minute less than an hour", () -> x.pass(59));
        ask("pass an hour", () -> x.pass(60));
        ask("now in the end", () -> x.now());
    }

    /** The walker goes to the stage that is due and answers right: its score tells what was counted before. */
    private void answerRight(int walker) {
        int stage = numberOrNone(() -> x.solved(walker));
        int place = numberOrNone(() -> x.placeOf(stage));
        if (place == CairnCipher.NONE) {
            return;
        }
        ask("send " + walker, () -> x.send(walker, place));
        ask("pass to the stage", () -> x.pass(60));
        Scenes.spellAnew(x, wordOf(Scenes.cipher(x, stage), place));
        ask("answer " + walker, () -> x.answer(walker, stage));
        ask("score " + walker, () -> x.score(walker));
        ask("scoreAnew " + walker, () -> x.scoreAnew(walker));
    }

    private static int numberOrNone(Supplier<Integer> call) {
        try {
            return call.get();
        } catch (IndexOutOfBoundsException e) {
            return CairnCipher.NONE;
        }
    }

    /** The word's letters: what the place has done to them is undone, from the last to the first. */
    private static int[] wordOf(String cipher, int place) {
        List<Integer> letters = new ArrayList<>();
        cipher.codePoints().forEach(point -> letters.add(point == 0x1F5FF ? 26 : point - 'a'));
        letters.remove(place % letters.size());
        if (place % 2 == 1) {
            Collections.reverse(letters);
        }
        return letters.stream().mapToInt(letter -> Math.floorMod(letter - place, 27)).toArray();
    }
}
