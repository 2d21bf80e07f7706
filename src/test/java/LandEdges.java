/** The sentences of "Land" and of the promises 1 to 3, and how long an object serves. */
final class LandEdges extends Edges {
    private LandEdges() {
    }

    static void all() {
        calls();
        places();
        distances();
        newObject();
        setHeight();
        setHeightRefusals();
        close();
    }

    private static void calls() {
        test("What it is", "An object is used for at most 512 calls after it has been made", x -> {
            x.hint(NEAR, 0, 0, false);
            x.spell(3);
            x.stage();
            x.addWalker(0, 1);
            x.clearSpelled();
            for (int i = 6; i <= 509; i++) {
                x.answer(0, 0);
            }
            x.spell(3);
            due(x.answer(0, 0), true);
            due(x.scoreAnew(0), 10);
        });
        test("What it is", "what later calls answer is free", x -> {
            Scenes.stageNear(x, 0, 3);
            x.addWalker(0, 1);
            x.clearSpelled();
            for (int i = 0; i < 1200; i++) {
                String got = Probe.outcome(() -> x.answer(0, 0));
                due(got.endsWith("of the library's"), false);
            }
        });
    }

    private static void places() {
        test("Land", "There are 64 places, numbered from 0", x -> {
            due(x.hint(ROW, 14, 0, false), 64);
            due(x.close(0), true);
            due(x.close(63), true);
            refused(INDEX, Scenes::busy, y -> y.close(-1));
            refused(INDEX, Scenes::busy, y -> y.close(64));
        });
        test("Land", "the place 8 * row + column has a row and a column, 0 to 7", x -> {
            due(x.hint(ROW, 7, 0, true), 8);
            due(x.hint(COLUMN, 1, 0, false), 1);
            x.spell(0);
            due(x.placeOf(x.stage()), 56);
            due(x.hint(ROW, 1, 0, false), 8);
            due(x.hint(COLUMN, 7, 0, true), 1);
            due(x.placeOf(x.stage()), 7);
        });
        test("Land", "A place has a height, 0 to 9, 0 at first", x -> {
            due(x.hint(HIGH, 1, 0, true), 64);
            x.clearDraft();
            x.setHeight(63, 9);
            due(x.hint(HIGH, 9, 0, false), 1);
            due(x.hint(HIGH, 10, 0, false), 0);
        });
        test("Land", "and is closed or not, as at first.", x -> {
            for (int place = 0; place < 64; place++) {
                due(x.way(place % 8 == 7 ? place - 1 : place + 1, place), 1);
            }
        });
    }

    private static void distances() {
        test("Land", "The distance of two places is the difference of their rows and that of their columns", x -> {
            due(x.hint(NEAR, 13, 0, false), 63);
            due(x.hint(NEAR, 13, 63, false), 62);
            due(x.hint(NEAR, 13, 7, false), 61);
            due(x.hint(NEAR, 13, 56, false), 60);
            x.clearDraft();
            due(x.hint(NEAR, 14, 56, false), 64);
        });
        test("Land", "without signs, together", x -> {
            x.hint(NEAR, 0, 28, true);
            due(x.hint(NEAR, 1, 28, false), 4);
            x.clearDraft();
            x.hint(NEAR, 1, 28, true);
            due(x.hint(NEAR, 2, 28, false), 8);
        });
        test("Land", "places with the distance 1 are neighbours.", x -> {
            due(x.way(0, 1), 1);
            due(x.way(0, 8), 1);
            due(x.way(63, 62), 1);
            due(x.way(63, 55), 1);
            due(x.way(0, 9), 2);
            due(x.way(7, 8), 8);
            due(x.way(0, 56), 7);
            x.close(1);
            x.close(8);
            due(x.way(0, 9), NONE);
        });
    }

    private static void newObject() {
        test("Promise 1", "Begins in the minute 0, on flat land", x -> {
            due(x.now(), 0);
            due(x.hint(HIGH, 1, 0, false), 0);
            due(x.way(0, 63), 14);
        });
        test("Promise 1", "without stages, walkers and wardens.", x -> {
            due(x.walkerAt(0), NONE);
            Act nothing = y -> { };
            refused(INDEX, nothing, y -> y.fits(0));
            refused(INDEX, nothing, y -> y.at(0));
            refused(INDEX, nothing, y -> y.sees(0));
        });
        test("Promise 1", "Begins in the minute 0", x -> {
            Scenes.busy(x);
            CairnCipher other = new CairnCipher();
            due(Probe.of(other), Probe.of(new CairnCipher()));
            due(x.now(), 7);
        });
    }

    private static void setHeight() {
        test("Promise 2", "Sets the height of a place.", x -> {
            x.setHeight(0, 9);
            x.setHeight(63, 1);
            due(x.way(1, 0), 10);
            due(x.way(0, 1), 10);
            due(x.way(62, 63), 2);
            due(x.way(1, 2), 1);
            due(x.hint(HIGH, 1, 0, false), 2);
            x.setHeight(0, 0);
            due(x.way(1, 0), 1);
        });
        test("Promise 2", "height: 0 to 9", x -> {
            due(x.setHeight(63, 9), 0);
            due(x.way(62, 63), 10);
            due(x.setHeight(63, 0), 0);
            due(x.way(62, 63), 1);
        });
        test("Promise 2", "Returns how many stages have moved by that.", x -> {
            due(x.setHeight(20, 9), 0);
            for (int height = 4; height <= 9; height++) {
                Scenes.stageHigh(x, height, 0);
            }
            due(x.setHeight(20, 9), 0);
            due(x.setHeight(20, 0), 6);
            due(x.setHeight(20, 6), 3);
            due(x.setHeight(21, 9), 6);
            due(x.setHeight(21, 9), 0);
            due(x.setHeight(22, 3), 0);
            due(x.setHeight(22, 4), 0);
            due(x.setHeight(20, 4), 2);
        });
        test("Promise 2", "Returns how many stages have moved by that.", x -> {
            Scenes.sixStages(x);
            due(x.setHeight(0, 9), 0);
            due(x.setHeight(50, 9), 0);
        });
    }

    private static void setHeightRefusals() {
        test("Promise 2", "Throws IndexOutOfBoundsException as told",
                x -> refusedNoPlace((y, place) -> y.setHeight(place, 0)));
        test("Promise 2", "Throws IllegalArgumentException if height is out of range",
                x -> refusedOutside(ARGUMENT, 0, 9, Scenes::busy, (y, height) -> y.setHeight(9, height)));
    }

    private static void close() {
        test("Promise 3", "Closes a place, or opens it again.", x -> {
            x.close(0);
            due(x.way(1, 0), NONE);
            due(x.way(0, 1), 1);
            x.close(63);
            due(x.way(62, 63), NONE);
            x.close(0);
            due(x.way(1, 0), 1);
            due(x.way(62, 63), NONE);
        });
        test("Promise 3", "Returns true if it is closed then.", x -> {
            due(x.close(0), true);
            due(x.close(63), true);
            due(x.close(0), false);
            due(x.close(0), true);
            due(x.close(63), false);
        });
        test("Promise 3", "Throws IndexOutOfBoundsException as told",
                x -> refusedNoPlace((y, place) -> y.close(place)));
    }
}
