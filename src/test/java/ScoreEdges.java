/** The sentences of "Answers and scores" and of the promises 25 to 30. */
final class ScoreEdges extends Edges {
    private ScoreEdges() {
    }

    static void all() {
        whoCanAnswer();
        rightAnswers();
        whoCanTell();
        points();
        answer();
        answerRefusals();
        tell();
        tellRefusals();
        solved();
        score();
        scoreAnew();
        walkerAt();
    }

    /** Walkers at the places, with the pace 1, and two stages at 27 with the word "c", which is spelled. */
    private static void twoStages(CairnCipher x, int... walkers) {
        Scenes.stageNear(x, 27, 2);
        Scenes.stageNear(x, 27, 2);
        for (int place : walkers) {
            x.addWalker(place, 1);
        }
    }

    /** The same, and the walker 0, at 27, has solved the stage 0. */
    private static void oneSolved(CairnCipher x, int... others) {
        twoStages(x, 27);
        x.answer(0, 0);
        for (int place : others) {
            x.addWalker(place, 1);
        }
    }

    private static void answerWrong(CairnCipher x, int walker, int stage, int times) {
        Scenes.spellAnew(x, 25);
        for (int i = 0; i < times; i++) {
            due(x.answer(walker, stage), false);
        }
        Scenes.spellAnew(x, 2);
    }

    private static void dueScore(CairnCipher x, int walker, int want) {
        due(x.score(walker), want);
        due(x.scoreAnew(walker), want);
    }

    private static void whoCanAnswer() {
        test("Answers and scores", "A walker that rests at the place of a stage", x -> {
            twoStages(x, 27);
            due(x.answer(0, 0), true);
            refused(STATE, y -> twoStages(y, 28), y -> y.answer(0, 0));
            refused(STATE, y -> {
                twoStages(y, 27);
                y.send(0, 28);
            }, y -> y.answer(0, 0));
            refused(STATE, y -> {
                twoStages(y, 27);
                y.setHeight(28, 9);
                y.send(0, 28);
                y.pass(1);
                y.send(0, 27);
            }, y -> y.answer(0, 0));
            refused(STATE, ScoreEdges::whereTheStageWas, y -> y.answer(0, 0));
        });
        test("Answers and scores", "and has solved all stages with lower numbers, can answer", x -> {
            twoStages(x, 27, 27);
            refused(STATE, y -> twoStages(y, 27), y -> y.answer(0, 1));
            due(x.answer(0, 0), true);
            due(x.answer(0, 1), true);
            due(x.answer(1, 0), true);
            due(x.answer(1, 1), true);
            refused(STATE, y -> {
                Scenes.stageNear(y, 27, 2);
                twoStages(y, 27);
                y.answer(0, 0);
            }, y -> y.answer(0, 2));
        });
    }

    private static void whereTheStageWas(CairnCipher x) {
        x.setHeight(0, 1);
        Scenes.stageHigh(x, 1, 0);
        x.addWalker(0, 1);
        x.setHeight(63, 1);
    }

    private static void rightAnswers() {
        test("Answers and scores", "the spelled text is right if it is the word.", x -> {
            Scenes.stageNear(x, 27, 1, 26, 0, 0, 25);
            x.addWalker(27, 1);
            int[][] wrongs = {{}, {1}, {1, 26, 0, 0}, {25, 0, 0, 26, 1}, {1, 26, 0, 0, 26}, {0, 26, 0, 0, 25}};
            for (int[] wrong : wrongs) {
                Scenes.spellAnew(x, wrong);
                due(x.answer(0, 0), false);
            }
            Scenes.spellAnew(x, 1, 26, 0, 0, 25);
            due(x.answer(0, 0), true);
            Scenes.stageNear(x, 27, 4);
            x.spell(4);
            due(x.answer(0, 1), false);
            Scenes.spellAnew(x, 4);
            due(x.answer(0, 1), true);
        });
        test("Answers and scores", "A wrong answer is counted.", x -> {
            twoStages(x, 27);
            answerWrong(x, 0, 0, 1);
            due(x.solved(0), 0);
            dueScore(x, 0, 0);
            x.answer(0, 0);
            dueScore(x, 0, 90);
            answerWrong(x, 0, 1, 2);
            x.answer(0, 1);
            dueScore(x, 0, 170);
        });
    }

    private static void whoCanTell() {
        test("Answers and scores", "A walker that has solved a stage can tell its word to another one", x -> {
            oneSolved(x, 27);
            due(x.tell(0, 1, 0), 50);
            refused(STATE, y -> oneSolved(y, 27), y -> y.tell(0, 1, 1));
            refused(STATE, y -> {
                oneSolved(y, 27, 27);
                y.tell(0, 1, 0);
            }, y -> y.tell(1, 2, 0));
        });
        test("Answers and scores", "that is at the same place or at a neighbour of it", x -> {
            oneSolved(x, 27, 19, 26, 28, 35);
            for (int other = 1; other <= 5; other++) {
                due(x.tell(0, other, 0), 50);
            }
            for (int place : new int[] {18, 20, 34, 36, 11, 25, 29, 43, 0, 63}) {
                refused(STATE, y -> oneSolved(y, place), y -> y.tell(0, 1, 0));
            }
        });
        test("Answers and scores", "or at a neighbour of it", x -> {
            refused(STATE, y -> {
                Scenes.stageNear(y, 7, 2);
                y.addWalker(7, 1);
                y.addWalker(8, 1);
                y.answer(0, 0);
            }, y -> y.tell(0, 1, 0));
            oneSolved(x, 28);
            x.close(27);
            x.close(28);
            x.setHeight(28, 9);
            x.send(0, 0);
            x.send(1, 63);
            due(x.tell(0, 1, 0), 50);
        });
        test("Answers and scores", "and has not solved it", x -> {
            oneSolved(x, 27);
            answerWrong(x, 1, 0, 1);
            due(x.tell(0, 1, 0), 45);
            refused(STATE, y -> {
                oneSolved(y, 27);
                y.answer(1, 0);
            }, y -> y.tell(0, 1, 0));
        });
        test("Answers and scores", "each walker can be told a word once.", x -> {
            oneSolved(x, 27, 27);
            x.answer(0, 1);
            due(x.tell(0, 1, 0), 50);
            due(x.tell(0, 1, 1), 50);
            due(x.tell(0, 2, 0), 50);
            refused(STATE, y -> {
                oneSolved(y, 27);
                y.tell(0, 1, 0);
            }, y -> y.tell(0, 1, 0));
            refused(STATE, y -> {
                oneSolved(y, 27, 27);
                y.answer(2, 0);
                y.tell(0, 1, 0);
            }, y -> y.tell(2, 1, 0));
        });
    }

    private static void points() {
        int[] pointsByWrongs = {100, 90, 80, 70, 60, 50, 40, 30, 20, 10, 10, 10};
        test("Answers and scores", "are 100, less 10 for each wrong answer that it gave there, 10 at least", x -> {
            for (int wrongs = 0; wrongs < pointsByWrongs.length; wrongs++) {
                CairnCipher y = new CairnCipher();
                twoStages(y, 27);
                answerWrong(y, 0, 0, wrongs);
                y.answer(0, 0);
                dueScore(y, 0, pointsByWrongs[wrongs]);
            }
            twoStages(x, 27);
            answerWrong(x, 0, 0, 400);
            x.answer(0, 0);
            dueScore(x, 0, 10);
        });
        test("Answers and scores", "for each wrong answer that it gave there", x -> {
            twoStages(x, 27, 27);
            answerWrong(x, 0, 0, 3);
            answerWrong(x, 1, 0, 1);
            x.answer(0, 0);
            x.answer(0, 1);
            x.answer(1, 0);
            dueScore(x, 0, 170);
            dueScore(x, 1, 90);
        });
        test("Answers and scores", "if it was told the word, half of that, rounded down.", x -> {
            for (int wrongs = 0; wrongs < pointsByWrongs.length; wrongs++) {
                CairnCipher y = new CairnCipher();
                oneSolved(y, 27);
                answerWrong(y, 1, 0, wrongs);
                due(y.tell(0, 1, 0), pointsByWrongs[wrongs] / 2);
                dueScore(y, 1, 0);
                y.answer(1, 0);
                dueScore(y, 1, pointsByWrongs[wrongs] / 2);
                dueScore(y, 0, 100);
            }
            oneSolved(x, 27);
            x.tell(0, 1, 0);
            answerWrong(x, 1, 0, 9);
            x.answer(1, 0);
            x.answer(1, 1);
            dueScore(x, 1, 5 + 100);
        });
        test("Answers and scores", "The score of a walker is the sum of these.", x -> {
            sixStagesAt27(x);
            x.addWalker(27, 1);
            x.addWalker(27, 1);
            x.addWalker(27, 1);
            dueScore(x, 1, 0);
            for (int i = 0; i < 6; i++) {
                due(x.answer(1, i), true);
                dueScore(x, 1, 100 * (i + 1));
            }
            dueScore(x, 0, 0);
            dueScore(x, 2, 0);
        });
    }

    private static void sixStagesAt27(CairnCipher x) {
        for (int i = 0; i < 6; i++) {
            Scenes.stageNear(x, 27, 2);
        }
    }

    private static void answer() {
        test("Promise 25", "Lets a walker answer with the spelled text.", x -> {
            twoStages(x, 27, 27);
            due(x.answer(1, 0), true);
            due(x.solved(1), 1);
            due(x.solved(0), 0);
            due(x.clearSpelled(), 1);
            due(x.answer(0, 0), false);
            due(x.answer(1, 1), false);
        });
        test("Promise 25", "Returns whether it is right.", x -> {
            twoStages(x, 27);
            answerWrong(x, 0, 0, 2);
            due(x.answer(0, 0), true);
        });
    }

    private static void answerRefusals() {
        test("Promise 25", "Throws IndexOutOfBoundsException as told, of the walker or the stage", x -> {
            refused(INDEX, y -> { }, y -> y.answer(0, 0));
            refused(INDEX, y -> y.addWalker(0, 1), y -> y.answer(0, 0));
            refused(INDEX, Scenes::sixStages, y -> y.answer(0, 0));
            refusedNoWalker((y, walker) -> y.answer(walker, 0));
            refusedNoStage((y, stage) -> y.answer(0, stage));
        });
        test("Promise 25", "Throws IllegalStateException if the walker does not rest at the place of the stage", x -> {
            refused(STATE, Scenes::busy, y -> y.answer(3, 0));
            refused(STATE, y -> twoStages(y, 26), y -> y.answer(0, 0));
            refused(STATE, y -> {
                twoStages(y, 26);
                y.setHeight(27, 1);
                y.send(0, 27);
                y.pass(1);
            }, y -> y.answer(0, 0));
            twoStages(x, 26);
            x.send(0, 27);
            x.pass(1);
            due(x.answer(0, 0), true);
        });
        test("Promise 25", "has not solved all stages with lower numbers",
                x -> refused(STATE, y -> twoStages(y, 27), y -> y.answer(0, 1)));
        test("Promise 25", "or has solved it", x -> {
            refused(STATE, y -> oneSolved(y), y -> y.answer(0, 0));
            refused(STATE, y -> {
                oneSolved(y);
                y.answer(0, 1);
                y.clearSpelled();
            }, y -> y.answer(0, 0));
        });
    }

    private static void tell() {
        test("Promise 26", "Lets a walker tell the word of a stage to another one.", x -> {
            oneSolved(x, 28, 28);
            x.tell(0, 1, 0);
            for (int other = 1; other <= 2; other++) {
                x.send(other, 27);
                x.pass(1);
                x.answer(other, 0);
            }
            dueScore(x, 0, 100);
            dueScore(x, 1, 50);
            dueScore(x, 2, 100);
        });
        test("Promise 26", "Returns the points that the other one can still get for the stage.", x -> {
            oneSolved(x, 27, 27, 27);
            answerWrong(x, 2, 0, 3);
            answerWrong(x, 3, 0, 20);
            due(x.tell(0, 1, 0), 50);
            due(x.tell(0, 2, 0), 35);
            due(x.tell(0, 3, 0), 5);
        });
    }

    private static void tellRefusals() {
        test("Promise 26", "Throws IndexOutOfBoundsException as told, of either walker or the stage", x -> {
            refused(INDEX, y -> { }, y -> y.tell(0, 1, 0));
            refused(INDEX, y -> oneSolved(y), y -> y.tell(0, 1, 0));
            refusedNoWalker((y, walker) -> y.tell(walker, 2, 0));
            refusedNoWalker((y, other) -> y.tell(0, other, 0));
            refusedNoStage((y, stage) -> y.tell(0, 1, stage));
        });
        test("Promise 26", "Throws IllegalArgumentException if both are the same", x -> {
            refused(ARGUMENT, y -> oneSolved(y), y -> y.tell(0, 0, 0));
            refused(ARGUMENT, y -> twoStages(y, 27), y -> y.tell(0, 0, 0));
            refused(ARGUMENT, y -> twoStages(y, 27), y -> y.tell(0, 0, 1));
            refused(ARGUMENT, Scenes::busy, y -> y.tell(3, 3, 1));
        });
        test("Promise 26", "Throws IllegalStateException if the first one has not solved it", x -> {
            refused(STATE, y -> twoStages(y, 27, 27), y -> y.tell(0, 1, 0));
            refused(STATE, y -> oneSolved(y, 27), y -> y.tell(1, 0, 1));
        });
        test("Promise 26", "the other one is neither at the same place nor at a neighbour of it", x -> {
            refused(STATE, y -> oneSolved(y, 36), y -> y.tell(0, 1, 0));
            refused(STATE, y -> oneSolved(y, 29), y -> y.tell(0, 1, 0));
            oneSolved(x, 29);
            x.send(1, 28);
            x.pass(1);
            due(x.tell(0, 1, 0), 50);
        });
        test("Promise 26", "has solved it", x -> refused(STATE, y -> {
            oneSolved(y, 27);
            y.answer(1, 0);
        }, y -> y.tell(0, 1, 0)));
        test("Promise 26", "or was told it", x -> refused(STATE, y -> {
            oneSolved(y, 27);
            y.tell(0, 1, 0);
        }, y -> y.tell(0, 1, 0)));
    }

    private static void solved() {
        test("Promise 27", "Returns how many stages a walker has solved.", x -> {
            sixStagesAt27(x);
            x.addWalker(27, 1);
            x.addWalker(27, 1);
            for (int i = 0; i < 6; i++) {
                due(x.solved(0), i);
                answerWrong(x, 0, i, 1);
                due(x.solved(0), i);
                x.answer(0, i);
            }
            due(x.solved(0), 6);
            due(x.solved(1), 0);
            x.tell(0, 1, 0);
            due(x.solved(1), 0);
        });
        test("Promise 27", "Throws IndexOutOfBoundsException as told", x -> {
            refused(INDEX, y -> { }, y -> y.solved(0));
            refusedNoWalker((y, walker) -> y.solved(walker));
        });
    }

    private static void score() {
        test("Promise 28", "Returns the score of a walker, as it is kept.", x -> {
            oneSolved(x, 27);
            due(x.score(0), 100);
            due(x.score(1), 0);
            answerWrong(x, 1, 0, 1);
            due(x.score(1), 0);
            x.answer(1, 0);
            due(x.score(1), 90);
            due(x.score(0), 100);
        });
        test("Promise 28", "Throws IndexOutOfBoundsException as told", x -> {
            refused(INDEX, y -> { }, y -> y.score(0));
            refusedNoWalker((y, walker) -> y.score(walker));
        });
    }

    private static void scoreAnew() {
        test("Promise 29", "Returns the same, found from all answers and tellings, in their order.", x -> {
            oneSolved(x, 27);
            due(x.scoreAnew(0), 100);
            due(x.scoreAnew(1), 0);
            answerWrong(x, 1, 0, 1);
            x.tell(0, 1, 0);
            answerWrong(x, 1, 0, 1);
            due(x.scoreAnew(1), 0);
            x.answer(1, 0);
            due(x.scoreAnew(1), 40);
            answerWrong(x, 1, 1, 10);
            x.answer(1, 1);
            due(x.scoreAnew(1), 50);
            due(x.scoreAnew(0), 100);
        });
        test("Promise 29", "Throws IndexOutOfBoundsException as told", x -> {
            refused(INDEX, y -> { }, y -> y.scoreAnew(0));
            refusedNoWalker((y, walker) -> y.scoreAnew(walker));
        });
    }

    private static void walkerAt() {
        test("Promise 30", "Returns the walker at a place in the order of scores: the greatest one first", x -> {
            twoStages(x, 27, 27, 27, 27, 27, 27);
            for (int walker = 0; walker < 6; walker++) {
                answerWrong(x, walker, 0, 5 - walker);
                x.answer(walker, 0);
            }
            for (int i = 0; i < 6; i++) {
                due(x.walkerAt(i), 5 - i);
            }
        });
        test("Promise 30", "of the same the lowest number.", x -> {
            twoStages(x, 27, 27, 27, 27, 27, 27);
            for (int i = 0; i < 6; i++) {
                due(x.walkerAt(i), i);
            }
            x.answer(4, 0);
            x.answer(2, 0);
            int[] order = {2, 4, 0, 1, 3, 5};
            for (int i = 0; i < 6; i++) {
                due(x.walkerAt(i), order[i]);
            }
        });
        test("Promise 30", "at: from 0", x -> {
            x.addWalker(0, 1);
            due(x.walkerAt(0), 0);
        });
        test("Promise 30", "Returns its number", x -> {
            oneSolved(x, 27);
            due(x.walkerAt(0), 0);
            due(x.walkerAt(1), 1);
            x.answer(1, 0);
            x.answer(1, 1);
            due(x.walkerAt(0), 1);
            due(x.walkerAt(1), 0);
        });
        test("Promise 30", "NONE if there is none, or at is below 0.", x -> {
            for (int at : new int[] {LEAST, -1, 0, GREATEST}) {
                due(x.walkerAt(at), NONE);
            }
            Scenes.sixWalkers(x);
            for (int at : new int[] {LEAST, -1, 6, GREATEST}) {
                due(x.walkerAt(at), NONE);
            }
        });
    }
}
