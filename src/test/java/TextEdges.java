/** The sentences of "Texts and ciphers" and of the promises 11 to 14. */
final class TextEdges extends Edges {
    private static final String PAIR = "\uD83D\uDDFF";

    private TextEdges() {
    }

    static void all() {
        letters();
        texts();
        ciphersLetters();
        insertedLetter();
        spell();
        clearSpelled();
        cipherLength();
        cipherAt();
        cipherRefusals();
    }

    private static String cipherNear(int place, int... word) {
        CairnCipher x = new CairnCipher();
        return Scenes.cipher(x, Scenes.stageNear(x, place, word));
    }

    private static void letters() {
        test("Texts and ciphers", "There are the letters 0 to 26", x -> {
            due(x.spell(0), 1);
            due(x.spell(26), 3);
            refusedOutside(INDEX, 0, 26, Scenes::busy, (y, letter) -> y.spell(letter));
        });
        test("Texts and ciphers", "the letters 0 to 25 are a to z", x -> {
            due(cipherNear(0, 0), "aa");
            due(cipherNear(0, 1), "ab");
            due(cipherNear(0, 25), "az");
        });
        test("Texts and ciphers", "the letter 26 is the code point 0x1F5FF, which is a pair of chars in a text", x -> {
            due(cipherNear(0, 26), "a" + new String(Character.toChars(0x1F5FF)));
            due(x.spell(25), 1);
            due(x.spell(26), 3);
        });
        test("Texts and ciphers", "(the high surrogate first)", x -> {
            Scenes.stageNear(x, 0, 26);
            due((int) x.cipherAt(0, 1), 0xD83D);
            due((int) x.cipherAt(0, 2), 0xDDFF);
        });
    }

    private static void texts() {
        test("Texts and ciphers", "One text is spelled at a time, empty at first", x -> due(x.clearSpelled(), 0));
        test("Texts and ciphers", "of 5 letters at most", x -> {
            Scenes.fullText(x);
            due(x.clearSpelled(), 5);
            refused(STATE, Scenes::fullText, y -> y.spell(0));
        });
        test("Texts and ciphers", "it stays when it is used.", x -> {
            Scenes.stageNear(x, 0, 1, 26);
            x.hint(NEAR, 0, 0, false);
            x.stage();
            x.addWalker(0, 1);
            due(x.answer(0, 0), true);
            due(x.answer(0, 1), true);
            due(x.spell(2), 4);
            x.addWalker(0, 1);
            due(x.answer(1, 0), false);
            due(x.clearSpelled(), 3);
        });
    }

    private static void ciphersLetters() {
        test("Texts and ciphers", "each letter l of its word becomes the rest of l and p, together", x -> {
            due(cipherNear(1, 24), "zb");
            due(cipherNear(1, 25), PAIR + "b");
            due(cipherNear(1, 26), "ab");
            due(cipherNear(26, 0), PAIR + PAIR);
            due(cipherNear(26, 1), PAIR + "a");
            due(cipherNear(26, 26), PAIR + "z");
            due(cipherNear(27, 0), "aa");
            due(cipherNear(27, 26), PAIR + "a");
            due(cipherNear(63, 17), PAIR + "j");
            due(cipherNear(63, 18), "aj");
            due(cipherNear(63, 26), "ij");
        });
        test("Texts and ciphers", "if p is odd, the letters are turned round", x -> {
            due(cipherNear(1, 0), "bb");
            due(cipherNear(2, 0, 1, 2), "cdce");
            due(cipherNear(3, 0, 1, 2), "fedd");
            due(cipherNear(62, 0, 1), "iji");
            due(cipherNear(63, 0, 1), "jkj");
            due(cipherNear(1, 25, 0), "bb" + PAIR);
            due(cipherNear(63, 0, 1, 2, 3, 4), "nmljkj");
        });
        test("Texts and ciphers", "The cipher of a stage that stands at a place p", x -> {
            x.setHeight(2, 3);
            Scenes.stageHigh(x, 3, 0, 1, 2);
            due(Scenes.cipher(x, 0), "cdce");
            x.setHeight(3, 3);
            x.setHeight(2, 0);
            due(Scenes.cipher(x, 0), "fedd");
        });
    }

    private static void insertedLetter() {
        test("Texts and ciphers", "then the letter that is the rest of p divided by 27 is inserted", x -> {
            due(cipherNear(0, 1), "ab");
            due(cipherNear(25, 0), "zz");
            due(cipherNear(25, 2), "az");
            due(cipherNear(26, 1), PAIR + "a");
            due(cipherNear(27, 1), "ba");
            due(cipherNear(53, 1), "a" + PAIR);
            due(cipherNear(54, 1), "ab");
            due(cipherNear(63, 0), "jj");
        });
        test("Texts and ciphers", "ahead of the letter number (p divided by the number of letters and 1", x -> {
            due(cipherNear(0, 0, 1, 2, 3, 4), "aabcde");
            due(cipherNear(4, 0, 1, 2, 3, 4), "efghei");
            due(cipherNear(6, 0, 1, 2, 3, 4), "gghijk");
            due(cipherNear(2, 1), "cd");
            due(cipherNear(1, 0, 1), "cbb");
        });
        test("Texts and ciphers", "or at the end, if that is the number of letters.", x -> {
            due(cipherNear(5, 0, 1, 2, 3, 4), "jihgff");
            due(cipherNear(59, 0, 1, 2, 3, 4), "jihgff");
            due(cipherNear(1, 5), "gb");
            due(cipherNear(2, 5, 6), "hic");
        });
    }

    private static void spell() {
        test("Promise 11", "Puts a letter at the end of the spelled text.", x -> {
            x.spell(3);
            x.spell(0);
            x.spell(26);
            x.hint(NEAR, 0, 0, false);
            x.stage();
            due(Scenes.cipher(x, 0), "ada" + PAIR);
        });
        test("Promise 11", "Returns how many chars the text has then.", x -> {
            for (int i = 1; i <= 5; i++) {
                due(x.spell(26), 2 * i);
            }
            x.clearSpelled();
            for (int i = 1; i <= 5; i++) {
                due(x.spell(30 - 5 * i), i);
            }
        });
        test("Promise 11", "Throws IndexOutOfBoundsException as told", x -> {
            refusedOutside(INDEX, 0, 26, y -> { }, (y, letter) -> y.spell(letter));
            refusedOutside(INDEX, 0, 26, Scenes::fullText, (y, letter) -> y.spell(letter));
        });
        test("Promise 11", "Throws IllegalStateException if it has 5 letters", x -> {
            refused(STATE, Scenes::fullText, y -> y.spell(0));
            refused(STATE, y -> Scenes.spellAnew(y, 26, 26, 26, 26, 26), y -> y.spell(26));
            Scenes.spellAnew(x, 26, 26, 26, 26);
            due(x.spell(26), 10);
        });
    }

    private static void clearSpelled() {
        test("Promise 12", "Empties the spelled text.", x -> {
            Scenes.fullText(x);
            x.clearSpelled();
            due(x.clearSpelled(), 0);
            due(x.spell(1), 1);
            x.hint(NEAR, 0, 0, false);
            x.stage();
            due(Scenes.cipher(x, 0), "ab");
        });
        test("Promise 12", "Returns how many letters it had.", x -> {
            due(x.clearSpelled(), 0);
            x.spell(26);
            due(x.clearSpelled(), 1);
            Scenes.spellAnew(x, 26, 26, 26, 26, 26);
            due(x.clearSpelled(), 5);
        });
    }

    private static void cipherLength() {
        test("Promise 13", "Returns how many chars the cipher of a stage has.", x -> {
            due(x.cipherLength(Scenes.stageNear(x, 0, 0)), 2);
            due(x.cipherLength(Scenes.stageNear(x, 0, 26)), 3);
            due(x.cipherLength(Scenes.stageNear(x, 26, 26)), 3);
            due(x.cipherLength(Scenes.stageNear(x, 26, 0)), 4);
            due(x.cipherLength(Scenes.stageNear(x, 0, 0, 1, 2, 3, 4)), 6);
            due(x.cipherLength(Scenes.stageNear(x, 26, 0, 0, 0, 0, 0)), 12);
        });
    }

    private static void cipherAt() {
        test("Promise 14", "Returns a char of the cipher of a stage.", x -> {
            Scenes.stageNear(x, 27, 0, 26);
            due((int) x.cipherAt(0, 0), (int) 'a');
            due((int) x.cipherAt(0, 1), 0xD83D);
            due((int) x.cipherAt(0, 2), 0xDDFF);
            due((int) x.cipherAt(0, 3), (int) 'a');
        });
        test("Promise 14", "at: from 0", x -> {
            Scenes.stageNear(x, 26, 0, 0, 0, 0, 0);
            due((int) x.cipherAt(0, 0), 0xD83D);
            due((int) x.cipherAt(0, 10), 0xD83D);
            due((int) x.cipherAt(0, 11), 0xDDFF);
            Scenes.stageNear(x, 0, 3);
            due((int) x.cipherAt(1, 0), (int) 'a');
            due((int) x.cipherAt(1, 1), (int) 'd');
        });
    }

    private static void nowhere(CairnCipher x) {
        x.setHeight(9, 1);
        Scenes.stageHigh(x, 1, 0);
        x.setHeight(9, 0);
    }

    private static void atTwoPlaces(CairnCipher x) {
        x.setHeight(9, 1);
        Scenes.stageHigh(x, 1, 0);
        x.setHeight(0, 9);
    }

    private static void cipherRefusals() {
        test("Promise 13", "Throws IndexOutOfBoundsException as told", x -> {
            refused(INDEX, y -> { }, y -> y.cipherLength(0));
            refusedNoStage((y, stage) -> y.cipherLength(stage));
        });
        test("Promise 13", "Throws java .util.NoSuchElementException if the stage stands nowhere", x -> {
            refused(ELEMENT, TextEdges::nowhere, y -> y.cipherLength(0));
            refused(ELEMENT, TextEdges::atTwoPlaces, y -> y.cipherLength(0));
        });
        test("Promise 14", "Throws IndexOutOfBoundsException as told", x -> {
            refused(INDEX, y -> { }, y -> y.cipherAt(0, 0));
            refusedNoStage((y, stage) -> y.cipherAt(stage, 0));
        });
        test("Promise 14", "Throws java .util.NoSuchElementException if the stage stands nowhere", x -> {
            refused(ELEMENT, TextEdges::nowhere, y -> y.cipherAt(0, 0));
            refused(ELEMENT, TextEdges::atTwoPlaces, y -> y.cipherAt(0, 1));
        });
        test("Promise 14", "or its cipher has no such char", x -> {
            refusedOutside(ELEMENT, 0, 1, y -> Scenes.stageNear(y, 0, 0), (y, at) -> y.cipherAt(0, at));
            Act twelveChars = y -> Scenes.stageNear(y, 26, 0, 0, 0, 0, 0);
            refusedOutside(ELEMENT, 0, 11, twelveChars, (y, at) -> y.cipherAt(0, at));
        });
    }
}
