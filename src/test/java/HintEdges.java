/** The sentences of "Hints and stages" and of the promises 4 to 10. */
final class HintEdges extends Edges {
    /** One of the calls that find where a stage stands. */
    private interface StageCall {
        int on(CairnCipher x, int stage);
    }

    private HintEdges() {
    }

    static void all() {
        rowsAndColumns();
        heightsMarksAndShades();
        drafts();
        stages();
        moved();
        hint();
        hintRefusals();
        clearDraft();
        stage();
        stageRefusals();
        needlessHints();
        fits();
        places();
        moves();
    }

    private static int countOf(int kind, int value, int mark, boolean isDenial) {
        return new CairnCipher().hint(kind, value, mark, isDenial);
    }

    private static void rowsAndColumns() {
        test("Hints and stages", "A hint says something of a place, or, if it is a denial, that this does not", x -> {
            due(countOf(ROW, 0, 0, true), 64);
            due(countOf(ROW, 14, 0, true), 0);
            due(countOf(COLUMN, 7, 0, true), 8);
            due(countOf(HIGH, 0, 0, true), 0);
            due(countOf(HIGH, 1, 0, true), 64);
            due(countOf(NEAR, 0, 63, true), 63);
            due(countOf(SHADE, 0, 0, true), 32);
            due(countOf(SHADE, 2, 0, true), 64);
            due(x.hint(NEAR, 3, 20, false) + countOf(NEAR, 3, 20, true), 64);
        });
        test("Hints and stages", "ROW, its row is below a value", x -> {
            due(countOf(ROW, 0, 0, false), 0);
            due(countOf(ROW, 1, 0, false), 8);
            due(countOf(ROW, 7, 0, false), 56);
            due(countOf(ROW, 8, 0, false), 64);
            x.hint(ROW, 3, 0, false);
            x.hint(ROW, 2, 0, true);
            due(x.hint(NEAR, 0, 23, false), 1);
            x.clearDraft();
            x.hint(ROW, 2, 0, false);
            due(x.hint(NEAR, 0, 16, false), 0);
        });
        test("Hints and stages", "COLUMN, its column is", x -> {
            due(countOf(COLUMN, 0, 0, false), 0);
            due(countOf(COLUMN, 1, 0, false), 8);
            due(countOf(COLUMN, 7, 0, false), 56);
            due(countOf(COLUMN, 8, 0, false), 64);
            x.hint(COLUMN, 3, 0, false);
            x.hint(COLUMN, 2, 0, true);
            due(x.hint(NEAR, 0, 58, false), 1);
            x.clearDraft();
            x.hint(COLUMN, 2, 0, false);
            due(x.hint(NEAR, 0, 2, false), 0);
        });
    }

    private static void heightsMarksAndShades() {
        test("Hints and stages", "HIGH, its height is at least the value", x -> {
            x.setHeight(5, 4);
            x.setHeight(6, 5);
            x.setHeight(7, 9);
            due(x.hint(HIGH, 0, 0, false), 64);
            due(x.hint(HIGH, 4, 0, false), 3);
            due(x.hint(HIGH, 5, 0, false), 2);
            due(x.hint(HIGH, 9, 0, false), 1);
            due(x.hint(HIGH, 10, 0, false), 0);
        });
        test("Hints and stages", "NEAR, its distance from a mark, which is a place, is at most the value", x -> {
            due(countOf(NEAR, 0, 27, false), 1);
            due(countOf(NEAR, 1, 27, false), 5);
            due(countOf(NEAR, 1, 0, false), 3);
            due(countOf(NEAR, 1, 63, false), 3);
            due(countOf(NEAR, 13, 63, false), 63);
            due(countOf(NEAR, 14, 63, false), 64);
            x.hint(NEAR, 3, 0, false);
            x.hint(NEAR, 2, 0, true);
            due(x.hint(NEAR, 0, 17, false), 1);
        });
        test("Hints and stages", "SHADE, the rest of its row and column, together, divided by 2 is the value.", x -> {
            due(countOf(SHADE, 0, 0, false), 32);
            due(countOf(SHADE, 1, 0, false), 32);
            due(countOf(SHADE, 2, 0, false), 0);
            due(countOf(SHADE, 14, 0, false), 0);
            x.hint(SHADE, 0, 0, false);
            due(x.hint(NEAR, 1, 0, false), 1);
            x.clearDraft();
            x.hint(SHADE, 0, 0, false);
            due(x.hint(NEAR, 0, 63, false), 1);
            x.clearDraft();
            x.hint(SHADE, 1, 0, false);
            due(x.hint(NEAR, 1, 7, false), 1);
        });
    }

    private static void drafts() {
        test("Hints and stages", "Hints are gathered in a draft, empty at first", x -> due(x.clearDraft(), 0));
        test("Hints and stages", "of at most 5.", x -> {
            Scenes.fullDraft(x);
            due(x.clearDraft(), 5);
            refused(STATE, Scenes::fullDraft, y -> y.hint(ROW, 0, 0, false));
        });
        test("Hints and stages", "They fix a place if they all hold at it, and at no other place.", x -> {
            x.spell(0);
            x.hint(ROW, 1, 0, false);
            due(x.hint(COLUMN, 1, 0, false), 1);
            due(x.stage(), 0);
            Act twoPlaces = y -> {
                y.spell(0);
                y.hint(ROW, 1, 0, false);
                due(y.hint(COLUMN, 2, 0, false), 2);
            };
            refused(STATE, twoPlaces, y -> y.stage());
            Act noPlace = y -> {
                y.spell(0);
                y.hint(ROW, 1, 0, false);
                due(y.hint(COLUMN, 0, 0, false), 0);
            };
            refused(STATE, noPlace, y -> y.stage());
        });
    }

    private static void stages() {
        test("Hints and stages", "Stages are numbered from 0, at most 6.", x -> {
            for (int i = 0; i < 6; i++) {
                due(Scenes.stageNear(x, i, 0), i);
            }
            refused(STATE, y -> {
                Scenes.sixStages(y);
                y.hint(NEAR, 0, 7, false);
            }, y -> y.stage());
        });
        test("Hints and stages", "A stage has the hints of the draft from which it was made", x -> {
            Scenes.stageNear(x, 40, 1);
            x.hint(NEAR, 0, 41, false);
            due(x.fits(0), 1);
            due(x.placeOf(0), 40);
            due(x.placeByAll(0), 40);
            x.clearDraft();
            due(x.fits(0), 1);
        });
        test("Hints and stages", "and a word, the text that was spelled then.", x -> {
            Scenes.stageNear(x, 0, 1, 2);
            x.spell(3);
            due(Scenes.cipher(x, 0), "abc");
            x.clearSpelled();
            due(Scenes.cipher(x, 0), "abc");
            x.spell(4);
            due(Scenes.cipher(x, 0), "abc");
        });
        test("Hints and stages", "It stands at the place that its hints fix", x -> {
            due(x.placeOf(Scenes.stageNear(x, 0, 1)), 0);
            due(x.placeOf(Scenes.stageNear(x, 63, 1)), 63);
            due(x.placeOf(Scenes.stageNear(x, 32, 1)), 32);
        });
        test("Hints and stages", "if they fix none by now, it stands nowhere.", x -> {
            x.setHeight(63, 1);
            Scenes.stageHigh(x, 1, 0);
            x.setHeight(63, 0);
            due(x.fits(0), 0);
            due(x.placeOf(0), NONE);
            x.setHeight(0, 1);
            due(x.placeOf(0), 0);
            x.setHeight(63, 1);
            due(x.fits(0), 2);
            due(x.placeOf(0), NONE);
        });
    }

    private static void moved() {
        test("Hints and stages", "When a change of heights makes its hints fix another place", x -> {
            x.setHeight(3, 2);
            Scenes.stageHigh(x, 2, 0);
            x.setHeight(4, 2);
            due(x.setHeight(3, 1), 1);
            due(x.placeOf(0), 4);
            due(x.moves(0), 2);
        });
        test("Hints and stages", "or one again, or none any more, it has moved.", x -> {
            x.setHeight(3, 2);
            Scenes.stageHigh(x, 2, 0);
            due(x.setHeight(3, 1), 1);
            due(x.moves(0), 1);
            due(x.setHeight(3, 2), 1);
            due(x.moves(0), 2);
            due(x.placeOf(0), 3);
        });
        test("Hints and stages", "When a change of heights makes its hints fix", x -> {
            x.setHeight(3, 2);
            Scenes.stageHigh(x, 2, 0);
            due(x.setHeight(3, 9), 0);
            due(x.setHeight(4, 1), 0);
            due(x.close(3), true);
            due(x.moves(0), 0);
            due(x.placeOf(0), 3);
            x.setHeight(4, 2);
            due(x.setHeight(5, 2), 0);
            due(x.setHeight(5, 0), 0);
            due(x.moves(0), 1);
        });
    }

    private static void hint() {
        test("Promise 4", "Adds a hint to the draft.", x -> {
            x.hint(NEAR, 0, 0, false);
            due(x.clearDraft(), 1);
            x.hint(NEAR, 0, 0, false);
            x.hint(NEAR, 0, 0, false);
            due(x.clearDraft(), 2);
        });
        test("Promise 4", "kind: ROW, COLUMN, HIGH, NEAR or SHADE", x -> {
            due(countOf(0, 2, 0, false), 16);
            due(countOf(1, 3, 0, false), 24);
            due(countOf(2, 0, 0, false), 64);
            due(countOf(3, 2, 0, false), 6);
            due(countOf(4, 1, 0, false), 32);
        });
        test("Promise 4", "value: 0 to 14", x -> {
            for (int kind = ROW; kind <= SHADE; kind++) {
                due(countOf(kind, 0, 0, false) + countOf(kind, 0, 0, true), 64);
                due(countOf(kind, 14, 0, false) + countOf(kind, 14, 0, true), 64);
            }
            due(countOf(NEAR, 14, 0, false), 64);
            due(countOf(HIGH, 14, 0, false), 0);
        });
        test("Promise 4", "mark: a place", x -> {
            due(countOf(NEAR, 0, 0, false), 1);
            due(countOf(NEAR, 0, 63, false), 1);
        });
        test("Promise 4", "it matters for NEAR alone", x -> {
            for (int mark : new int[] {0, 7, 27, 56, 63}) {
                due(countOf(ROW, 3, mark, false), 24);
                due(countOf(COLUMN, 3, mark, false), 24);
                due(countOf(HIGH, 0, mark, false), 64);
                due(countOf(SHADE, 1, mark, false), 32);
            }
            due(countOf(NEAR, 1, 7, false), 3);
            due(countOf(NEAR, 1, 27, false), 5);
        });
        test("Promise 4", "Returns how many places there are at which all hints of the draft hold then.", x -> {
            due(x.hint(ROW, 14, 0, false), 64);
            due(x.hint(ROW, 2, 0, false), 16);
            due(x.hint(COLUMN, 1, 0, false), 2);
            due(x.hint(SHADE, 1, 0, false), 1);
            due(x.hint(ROW, 1, 0, false), 0);
        });
        test("Promise 4", "of the draft hold then.", x -> {
            due(x.hint(HIGH, 3, 0, false), 0);
            x.setHeight(0, 3);
            x.setHeight(63, 3);
            due(x.hint(ROW, 14, 0, false), 2);
            x.setHeight(0, 2);
            due(x.hint(ROW, 14, 0, false), 1);
        });
    }

    private static void hintRefusals() {
        test("Promise 4", "Throws IndexOutOfBoundsException as told, of the mark", x -> {
            for (int of = ROW; of <= SHADE; of++) {
                int kind = of;
                refusedNoPlace((y, mark) -> y.hint(kind, 0, mark, false));
            }
        });
        test("Promise 4", "Throws IllegalArgumentException if kind or value is out of range", x -> {
            refusedOutside(ARGUMENT, ROW, SHADE, Scenes::busy, (y, kind) -> y.hint(kind, 0, 0, false));
            for (int of = ROW; of <= SHADE; of++) {
                int kind = of;
                refusedOutside(ARGUMENT, 0, 14, Scenes::busy, (y, value) -> y.hint(kind, value, 0, true));
            }
        });
        test("Promise 4", "Throws IllegalStateException if the draft has 5", x -> {
            Scenes.fullDraft(x);
            x.clearDraft();
            due(x.hint(ROW, 1, 0, false), 8);
            refused(STATE, Scenes::fullDraft, y -> y.hint(NEAR, 0, 63, false));
        });
    }

    private static void clearDraft() {
        test("Promise 5", "Empties the draft.", x -> {
            x.hint(ROW, 0, 0, false);
            x.clearDraft();
            due(x.clearDraft(), 0);
            due(x.hint(ROW, 1, 0, false), 8);
        });
        test("Promise 5", "Returns how many hints it had.", x -> {
            due(x.clearDraft(), 0);
            x.hint(ROW, 0, 0, false);
            due(x.clearDraft(), 1);
            Scenes.fullDraft(x);
            due(x.clearDraft(), 5);
            due(x.clearDraft(), 0);
        });
    }

    /** Rows 1 and columns 1 and 2, then the shade: without any of these there are several places. */
    private static void fiveNeededHints(CairnCipher x) {
        x.hint(ROW, 2, 0, false);
        x.hint(ROW, 1, 0, true);
        x.hint(COLUMN, 3, 0, false);
        x.hint(COLUMN, 1, 0, true);
        x.hint(SHADE, 1, 0, false);
    }

    private static void stage() {
        test("Promise 6", "Makes the draft a stage, with the spelled text as its word", x -> {
            x.spell(26);
            fiveNeededHints(x);
            due(x.stage(), 0);
            due(x.placeOf(0), 10);
            due(x.cipherLength(0), 2);
            Scenes.fullText(x);
            x.hint(NEAR, 0, 0, false);
            x.stage();
            due(Scenes.cipher(x, 1), "aa\uD83D\uDDFFzb\uD83D\uDDFF");
        });
        test("Promise 6", "the draft is empty then.", x -> {
            x.spell(0);
            fiveNeededHints(x);
            x.stage();
            due(x.clearDraft(), 0);
            due(x.hint(ROW, 14, 0, false), 64);
        });
        test("Promise 6", "Returns the number of the stage.", x -> {
            for (int i = 0; i < 6; i++) {
                due(Scenes.stageNear(x, 63 - i, i), i);
            }
        });
    }

    private static void stageRefusals() {
        test("Promise 6", "Throws IllegalStateException if the draft does not fix a place", x -> {
            refused(STATE, y -> y.spell(0), y -> y.stage());
            refused(STATE, Scenes::busy, y -> y.stage());
            refused(STATE, y -> {
                y.spell(0);
                y.hint(HIGH, 1, 0, false);
            }, y -> y.stage());
            refused(STATE, y -> {
                y.spell(0);
                y.setHeight(1, 1);
                y.hint(HIGH, 1, 0, false);
                y.setHeight(1, 0);
            }, y -> y.stage());
        });
        test("Promise 6", "the spelled text is empty", x -> {
            refused(STATE, y -> y.hint(NEAR, 0, 0, false), y -> y.stage());
            refused(STATE, y -> {
                y.hint(NEAR, 0, 0, false);
                y.spell(0);
                y.clearSpelled();
            }, y -> y.stage());
        });
        test("Promise 6", "or there are 6 stages", x -> refused(STATE, y -> {
            Scenes.sixStages(y);
            y.hint(NEAR, 0, 63, false);
        }, y -> y.stage()));
    }

    /** The hints of the kinds, of which the last numbers tell where the needless one stands. */
    private static void needlessHints() {
        test("Promise 6", "or would fix one without some hint of it", x -> {
            int[][] needless = {{NEAR, 0, NEAR, 0}, {ROW, 14, NEAR, 0}, {NEAR, 0, COLUMN, 8},
                {ROW, 14, NEAR, 0, COLUMN, 8}, {ROW, 1, SHADE, 0, COLUMN, 1}, {ROW, 1, COLUMN, 1, SHADE, 0},
                {SHADE, 0, ROW, 1, COLUMN, 1}, {ROW, 1, COLUMN, 2, SHADE, 0, NEAR, 14},
                {HIGH, 0, ROW, 1, COLUMN, 2, SHADE, 0}};
            for (int[] draft : needless) {
                refused(STATE, y -> {
                    y.spell(0);
                    hintAll(y, draft);
                }, y -> y.stage());
            }
            x.spell(0);
            hintAll(x, ROW, 1, COLUMN, 2, SHADE, 0);
            due(x.placeOf(x.stage()), 0);
        });
        test("Promise 6", "would fix one without some hint", x -> refused(STATE, y -> {
            y.setHeight(9, 4);
            y.spell(0);
            hintAll(y, ROW, 2, COLUMN, 2, NEAR, 2, HIGH, 4);
        }, y -> y.stage()));
    }

    private static void hintAll(CairnCipher x, int... kindsAndValues) {
        for (int i = 0; i + 1 < kindsAndValues.length; i += 2) {
            x.hint(kindsAndValues[i], kindsAndValues[i + 1], 0, false);
        }
    }

    private static void fits() {
        test("Promise 7", "Returns at how many places the hints of a stage hold now.", x -> {
            x.setHeight(0, 1);
            Scenes.stageHigh(x, 1, 0);
            due(x.fits(0), 1);
            x.setHeight(0, 0);
            due(x.fits(0), 0);
            for (int place = 0; place < 64; place++) {
                x.setHeight(place, 1 + place % 9);
                due(x.fits(0), place + 1);
            }
        });
        test("Promise 7", "Throws IndexOutOfBoundsException as told", x -> refusedNoStage((y, stage) -> y.fits(stage)));
    }

    private static void places() {
        placesOfStages("Promise 8", "Returns where a stage stands, by the places of its hints that are kept.",
                (x, stage) -> x.placeOf(stage));
        placesOfStages("Promise 9", "Returns the same, found by asking all hints of each place.",
                (x, stage) -> x.placeByAll(stage));
    }

    /** What both ways to find a stage's place promise. */
    private static void placesOfStages(String promise, String quote, StageCall placeOf) {
        test(promise, quote, x -> {
            due(placeOf.on(x, Scenes.stageNear(x, 0, 0)), 0);
            due(placeOf.on(x, Scenes.stageNear(x, 63, 0)), 63);
            x.spell(0);
            fiveNeededHints(x);
            due(placeOf.on(x, x.stage()), 10);
            x.hint(ROW, 7, 0, true);
            x.hint(COLUMN, 1, 0, false);
            due(placeOf.on(x, x.stage()), 56);
            x.hint(ROW, 1, 0, false);
            x.hint(COLUMN, 7, 0, true);
            due(placeOf.on(x, x.stage()), 7);
        });
        test(promise, "Returns the place", x -> {
            x.setHeight(8, 1);
            due(placeOf.on(x, Scenes.stageHigh(x, 1, 0)), 8);
            x.setHeight(9, 9);
            x.setHeight(8, 0);
            due(placeOf.on(x, 0), 9);
        });
        test(promise, "NONE if it stands nowhere.", x -> {
            x.setHeight(8, 1);
            Scenes.stageHigh(x, 1, 0);
            x.setHeight(8, 0);
            due(placeOf.on(x, 0), NONE);
            for (int place : new int[] {0, 63, 62}) {
                x.setHeight(place, 1);
                due(placeOf.on(x, 0), place == 0 ? 0 : NONE);
            }
        });
        test(promise, "Throws IndexOutOfBoundsException as told",
                x -> refusedNoStage((y, stage) -> placeOf.on(y, stage)));
    }

    private static void moves() {
        test("Promise 10", "Returns how often a stage has moved.", x -> {
            x.setHeight(8, 1);
            Scenes.stageNear(x, 8, 0);
            due(x.moves(Scenes.stageHigh(x, 1, 0)), 0);
            for (int i = 1; i <= 200; i++) {
                due(x.setHeight(8, 1 - i % 2), 1);
                due(x.moves(1), i);
            }
            due(x.moves(0), 0);
        });
        test("Promise 10", "Throws IndexOutOfBoundsException as told",
                x -> refusedNoStage((y, stage) -> y.moves(stage)));
    }
}
