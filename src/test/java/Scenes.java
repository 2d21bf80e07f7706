/** Objects in the states that the tests begin from, and what brings them there. */
final class Scenes {
    private Scenes() {
    }

    static void spellAnew(CairnCipher x, int... letters) {
        x.clearSpelled();
        for (int letter : letters) {
            x.spell(letter);
        }
    }

    static int stageNear(CairnCipher x, int place, int... word) {
        spellAnew(x, word);
        x.hint(CairnCipher.NEAR, 0, place, false);
        return x.stage();
    }

    static int stageHigh(CairnCipher x, int height, int... word) {
        spellAnew(x, word);
        x.hint(CairnCipher.HIGH, height, 0, false);
        return x.stage();
    }

    static String cipher(CairnCipher x, int stage) {
        StringBuilder text = new StringBuilder();
        int length = x.cipherLength(stage);
        for (int i = 0; i < length; i++) {
            text.append(x.cipherAt(stage, i));
        }
        return text.toString();
    }

    /** Something of everything: a stage that moved, a walker on its step, answers, tellings, a draft, a text. */
    static void busy(CairnCipher x) {
        x.setHeight(9, 3);
        x.setHeight(20, 5);
        x.close(30);
        stageNear(x, 9, 0, 26, 2);
        stageHigh(x, 5, 7);
        x.setHeight(21, 6);
        x.setHeight(20, 0);
        x.addWalker(9, 1);
        x.addWalker(8, 2);
        x.addWalker(9, 1);
        x.addWalker(63, 5);
        x.answer(0, 0);
        x.answer(2, 0);
        spellAnew(x, 0, 26, 2);
        x.answer(0, 0);
        x.tell(0, 2, 0);
        x.addWarden(27);
        x.pass(5);
        x.send(3, 60);
        x.send(1, 11);
        x.pass(2);
        x.hint(CairnCipher.ROW, 3, 0, false);
        x.hint(CairnCipher.SHADE, 1, 0, true);
        x.hint(CairnCipher.HIGH, 4, 0, true);
    }

    static void fullDraft(CairnCipher x) {
        for (int i = 1; i <= 5; i++) {
            x.hint(CairnCipher.COLUMN, i, 0, true);
        }
    }

    static void fullText(CairnCipher x) {
        spellAnew(x, 0, 26, 25, 1, 26);
    }

    static void sixStages(CairnCipher x) {
        for (int i = 0; i < 6; i++) {
            stageNear(x, 10 * i, i);
        }
    }

    static void sixWalkers(CairnCipher x) {
        for (int i = 0; i < 6; i++) {
            x.addWalker(i, 1);
        }
    }

    static void fourWardens(CairnCipher x) {
        for (int i = 0; i < 4; i++) {
            x.addWarden(21 * i);
        }
    }

    /** One path alone along all rows: every second row is open at one end, by turns. */
    static void maze(CairnCipher x) {
        for (int row = 1; row < 8; row += 2) {
            for (int column = 0; column < 8; column++) {
                if (column != (row % 4 == 1 ? 7 : 0)) {
                    x.close(8 * row + column);
                }
            }
        }
    }

    static void passTo(CairnCipher x, int minute) {
        while (x.now() < minute) {
            x.pass(Math.min(60, minute - x.now()));
        }
    }
}
