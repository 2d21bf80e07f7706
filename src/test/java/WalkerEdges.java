/** The sentences of "Walkers" and of the promises 15 to 24. */
final class WalkerEdges extends Edges {
    /** One of the calls that find a way. */
    private interface WayCall {
        int on(CairnCipher x, int place, int goal);
    }

    private WalkerEdges() {
    }

    static void all() {
        walkers();
        steps();
        choices();
        goals();
        stepsEnd();
        minutes();
        wardensTerms();
        pass();
        passRefusals();
        addWalker();
        addWalkerRefusals();
        send();
        sendRefusals();
        at();
        rests();
        ways();
        addWarden();
        sees();
    }

    /** Round the place 0, so that there is no way to or from it. */
    private static void closeRoundZero(CairnCipher x) {
        x.close(1);
        x.close(8);
    }

    private static void walkers() {
        test("Walkers", "Now is a minute, 0 at first.", x -> due(x.now(), 0));
        test("Walkers", "Walkers are numbered from 0, at most 6", x -> {
            for (int i = 0; i < 6; i++) {
                due(x.addWalker(i, 1), i);
            }
            refused(STATE, Scenes::sixWalkers, y -> y.addWalker(0, 1));
        });
        test("Walkers", "a walker has a pace, 1 to 5", x -> {
            x.addWalker(0, 1);
            x.addWalker(0, 5);
            x.send(0, 1);
            x.send(1, 1);
            due(x.pass(1), 1);
            due(x.pass(3), 0);
            due(x.pass(1), 1);
        });
        test("Walkers", "is at a place, and rests at first.", x -> {
            x.close(63);
            x.addWalker(63, 5);
            x.addWalker(0, 1);
            due(x.at(0), 63);
            due(x.at(1), 0);
            due(x.rests(0), true);
            due(x.rests(1), true);
            due(x.pass(60), 0);
            due(x.at(1), 0);
        });
    }

    private static void steps() {
        test("Walkers", "A step leads to a neighbour that is not closed", x -> {
            x.addWalker(0, 1);
            x.close(1);
            due(x.send(0, 2), 4);
            int[] over = {8, 9, 10, 2};
            for (int place : over) {
                x.pass(1);
                due(x.at(0), place);
            }
            x.close(2);
            due(x.send(0, 3), 1);
            due(x.pass(1), 1);
            due(x.send(0, 2), NONE);
        });
        test("Walkers", "and costs 1 and the difference of both heights, without its sign, together", x -> {
            due(x.way(0, 1), 1);
            x.setHeight(0, 9);
            due(x.way(0, 1), 10);
            due(x.way(1, 0), 10);
            x.setHeight(1, 8);
            due(x.way(0, 1), 2);
            due(x.way(1, 0), 2);
            x.setHeight(1, 9);
            due(x.way(0, 1), 1);
        });
        test("Walkers", "it takes as many minutes as its cost times the pace.", x -> {
            x.setHeight(1, 9);
            x.addWalker(0, 5);
            x.addWalker(1, 1);
            x.send(0, 1);
            x.send(1, 0);
            due(x.pass(9), 0);
            due(x.pass(1), 1);
            due(x.at(1), 0);
            due(x.pass(39), 0);
            due(x.pass(1), 1);
            due(x.at(0), 1);
            x.setHeight(1, 0);
            x.send(1, 1);
            due(x.pass(1), 1);
        });
    }

    private static void choices() {
        test("Walkers", "it takes the one with which the sum of the costs to the goal is least", x -> {
            x.setHeight(1, 1);
            x.addWalker(0, 1);
            due(x.send(0, 2), 4);
            x.pass(2);
            due(x.at(0), 1);
            due(x.pass(2), 1);
            x.setHeight(1, 2);
            x.addWalker(0, 1);
            due(x.send(1, 2), 4);
            x.pass(1);
            due(x.at(1), 8);
        });
        test("Walkers", "the sum of the costs to the goal is least by then", x -> {
            x.addWalker(0, 1);
            due(x.send(0, 2), 2);
            x.setHeight(1, 9);
            x.pass(1);
            due(x.at(0), 8);
            x.setHeight(1, 0);
            x.close(9);
            x.pass(1);
            due(x.at(0), 0);
            due(x.pass(2), 1);
        });
        test("Walkers", "of several that to the lowest place", x -> {
            int[][] fromToOver = {{9, 18, 10}, {18, 9, 10}, {9, 16, 8}, {16, 9, 8}, {27, 0, 19}, {27, 63, 28}};
            for (int i = 0; i < fromToOver.length; i++) {
                x.addWalker(fromToOver[i][0], 1);
                x.send(i, fromToOver[i][1]);
            }
            x.pass(1);
            for (int i = 0; i < fromToOver.length; i++) {
                due(x.at(i), fromToOver[i][2]);
            }
        });
        test("Walkers", "the lowest place", x -> {
            x.setHeight(1, 3);
            x.setHeight(8, 1);
            x.setHeight(9, 5);
            x.addWalker(0, 1);
            due(x.send(0, 9), 7);
            due(x.pass(6), 0);
            due(x.at(0), 1);
            due(x.pass(1), 1);
        });
    }

    private static void goals() {
        test("Walkers", "if there is no way by then", x -> {
            x.addWalker(0, 1);
            closeRoundZero(x);
            due(x.send(0, 63), NONE);
            due(x.pass(1), 0);
            due(x.rests(0), true);
            closeRoundZero(x);
            due(x.pass(60), 0);
            due(x.at(0), 0);
        });
        test("Walkers", "or it is at the goal, it rests, and has no goal any more", x -> {
            x.addWalker(0, 1);
            x.send(0, 1);
            due(x.pass(60), 1);
            due(x.rests(0), true);
            due(x.pass(60), 0);
            due(x.at(0), 1);
        });
        test("Walkers", "till then it has one.", x -> {
            x.addWalker(0, 1);
            closeRoundZero(x);
            x.send(0, 1);
            due(x.rests(0), false);
            closeRoundZero(x);
            due(x.rests(0), false);
            due(x.pass(1), 1);
            due(x.at(0), 1);
        });
        test("Walkers", "One without a step that is sent to the place where it is rests at once.", x -> {
            x.close(9);
            x.addWalker(9, 2);
            due(x.send(0, 9), 0);
            due(x.rests(0), true);
            x.send(0, 63);
            due(x.rests(0), false);
            due(x.send(0, 9), 0);
            due(x.rests(0), true);
            due(x.pass(60), 0);
            due(x.at(0), 9);
            x.send(0, 10);
            x.pass(1);
            due(x.send(0, 9), 0);
            due(x.rests(0), false);
        });
    }

    private static void stepsEnd() {
        test("Walkers", "A step that has begun is ended, whatever changes", x -> {
            x.setHeight(1, 2);
            x.addWalker(0, 5);
            x.send(0, 1);
            due(x.pass(1), 0);
            x.setHeight(1, 9);
            x.setHeight(0, 9);
            x.close(1);
            x.close(0);
            x.send(0, 0);
            x.send(0, 1);
            due(x.pass(13), 0);
            due(x.pass(1), 1);
            due(x.at(0), 1);
        });
        test("Walkers", "A step that has begun is ended", x -> {
            x.addWalker(0, 5);
            x.send(0, 1);
            x.pass(1);
            x.setHeight(1, 9);
            due(x.pass(3), 0);
            due(x.pass(1), 1);
        });
        test("Walkers", "the walker is at the place where the step began until it ends.", x -> {
            x.addWarden(15);
            x.addWalker(11, 5);
            x.send(0, 12);
            due(x.at(0), 11);
            x.pass(1);
            due(x.at(0), 11);
            x.pass(3);
            due(x.at(0), 11);
            due(x.sees(0), 0);
            x.pass(1);
            due(x.at(0), 12);
            due(x.sees(0), 1);
        });
    }

    private static void minutes() {
        test("Walkers", "begins one, if it can, and then a minute of its step is over.", x -> {
            x.addWalker(0, 1);
            x.addWalker(0, 2);
            x.send(0, 2);
            x.send(1, 1);
            due(x.pass(1), 0);
            due(x.at(0), 1);
            due(x.at(1), 0);
            due(x.pass(1), 2);
            due(x.at(0), 2);
            due(x.at(1), 1);
        });
        test("Walkers", "In each minute that passes each walker, by its number, that has no step", x -> {
            Scenes.sixWalkers(x);
            for (int i = 0; i < 5; i++) {
                x.send(i, i + 8);
            }
            due(x.pass(1), 5);
            for (int i = 0; i < 5; i++) {
                due(x.at(i), i + 8);
            }
            due(x.at(5), 5);
        });
        test("Walkers", "A walker that comes to its goal rests.", x -> {
            x.addWalker(0, 1);
            x.send(0, 2);
            x.pass(1);
            due(x.rests(0), false);
            x.pass(1);
            due(x.rests(0), true);
            due(x.send(0, 2), 0);
            due(x.pass(60), 0);
        });
    }

    private static void wardensTerms() {
        test("Walkers", "Wardens are numbered from 0, at most 4", x -> {
            for (int i = 0; i < 4; i++) {
                due(x.addWarden(0), i);
            }
            refused(STATE, Scenes::fourWardens, y -> y.addWarden(0));
        });
        test("Walkers", "sees the walkers that are at places with a distance of at most 3", x -> {
            int[] places = {27, 30, 31, 3, 9, 8};
            for (int place : places) {
                x.addWalker(place, 1);
            }
            x.addWarden(27);
            x.addWarden(0);
            x.addWarden(63);
            due(x.sees(0), 0b001011);
            due(x.sees(1), 0b111000);
            due(x.sees(2), 0);
        });
        test("Walkers", "and the same for all: heights do not matter.", x -> {
            x.addWalker(30, 1);
            x.addWalker(31, 5);
            x.addWalker(30, 5);
            x.setHeight(28, 9);
            x.setHeight(30, 9);
            x.close(29);
            x.addWarden(27);
            x.addWarden(28);
            x.setHeight(27, 5);
            due(x.sees(0), 0b101);
            due(x.sees(1), 0b111);
        });
    }

    private static void pass() {
        test("Promise 15", "Lets minutes pass.", x -> {
            x.addWalker(0, 1);
            x.send(0, 63);
            x.pass(1);
            due(x.now(), 1);
            x.pass(12);
            due(x.now(), 13);
            due(x.rests(0), false);
            x.pass(1);
            due(x.at(0), 63);
        });
        test("Promise 15", "minutes: 1 to 60", x -> {
            due(x.pass(1), 0);
            due(x.now(), 1);
            due(x.pass(60), 0);
            due(x.now(), 61);
        });
        test("Promise 15", "Returns how many walkers come to their goals in them.", x -> {
            Scenes.sixWalkers(x);
            due(x.pass(60), 0);
            for (int i = 0; i < 6; i++) {
                x.send(i, 63);
            }
            due(x.pass(8), 0);
            due(x.pass(6), 6);
            for (int i = 0; i < 6; i++) {
                x.send(i, 63);
            }
            due(x.pass(1), 0);
        });
        test("Promise 15", "come to their goals", x -> {
            x.addWalker(0, 1);
            x.addWalker(7, 1);
            closeRoundZero(x);
            x.send(0, 9);
            x.send(1, 6);
            due(x.pass(60), 1);
        });
    }

    private static void passRefusals() {
        test("Promise 15", "Throws IllegalArgumentException if minutes is out of range", x -> {
            refusedOutside(ARGUMENT, 1, 60, Scenes::busy, (y, minutes) -> y.pass(minutes));
            refusedOutside(ARGUMENT, 1, 60, y -> Scenes.passTo(y, 5000), (y, minutes) -> y.pass(minutes));
        });
        test("Promise 15", "Throws IllegalStateException if it would be later than the minute 5000", x -> {
            int[][] minuteAndMore = {{4980, 21}, {4941, 60}, {4999, 2}, {5000, 1}, {5000, 60}};
            for (int[] tried : minuteAndMore) {
                refused(STATE, y -> {
                    Scenes.busy(y);
                    Scenes.passTo(y, tried[0]);
                    y.send(0, 63);
                }, y -> y.pass(tried[1]));
            }
        });
        test("Promise 15", "later than the minute 5000", x -> {
            x.addWalker(0, 1);
            Scenes.passTo(x, 4940);
            x.send(0, 63);
            due(x.pass(60), 1);
            due(x.now(), 5000);
        });
        test("Promise 16", "Returns the minute of now.", x -> {
            due(x.now(), 0);
            x.pass(60);
            due(x.now(), 60);
            Scenes.passTo(x, 4999);
            due(x.now(), 4999);
            due(x.pass(1), 0);
            due(x.now(), 5000);
        });
    }

    private static void addWalker() {
        test("Promise 17", "Adds a walker.", x -> {
            due(x.walkerAt(0), NONE);
            x.addWalker(0, 1);
            x.addWalker(63, 1);
            due(x.at(0), 0);
            due(x.at(1), 63);
            due(x.walkerAt(1), 1);
            due(x.walkerAt(2), NONE);
        });
        test("Promise 17", "pace: 1 to 5", x -> {
            for (int pace = 1; pace <= 5; pace++) {
                x.addWalker(0, pace);
                x.send(pace - 1, 1);
            }
            for (int i = 0; i < 5; i++) {
                due(x.pass(1), 1);
                due(x.at(i), 1);
            }
        });
        test("Promise 17", "Returns its number.", x -> {
            for (int i = 0; i < 6; i++) {
                due(x.addWalker(63, 5), i);
            }
        });
    }

    private static void addWalkerRefusals() {
        test("Promise 17", "Throws IndexOutOfBoundsException as told",
                x -> refusedNoPlace((y, place) -> y.addWalker(place, 1)));
        test("Promise 17", "Throws IllegalArgumentException if pace is out of range",
                x -> refusedOutside(ARGUMENT, 1, 5, Scenes::busy, (y, pace) -> y.addWalker(0, pace)));
        test("Promise 17", "Throws IllegalStateException if there are 6", x -> {
            refused(STATE, Scenes::sixWalkers, y -> y.addWalker(0, 1));
            refused(STATE, Scenes::sixWalkers, y -> y.addWalker(63, 5));
        });
    }

    private static void send() {
        test("Promise 18", "Sends a walker to a place", x -> {
            x.addWalker(63, 1);
            x.send(0, 0);
            due(x.pass(13), 0);
            due(x.pass(1), 1);
            due(x.at(0), 0);
            x.send(0, 63);
            x.send(0, 8);
            due(x.pass(1), 1);
            due(x.at(0), 8);
        });
        test("Promise 18", "a step that has begun is ended first.", x -> {
            x.addWalker(8, 3);
            x.send(0, 10);
            x.pass(2);
            due(x.send(0, 0), 1);
            due(x.pass(1), 0);
            due(x.at(0), 9);
            due(x.pass(6), 1);
            due(x.at(0), 0);
        });
        test("Promise 18", "a step that has begun is ended", x -> {
            x.addWalker(8, 3);
            x.send(0, 10);
            x.pass(2);
            due(x.send(0, 9), 1);
            due(x.pass(1), 1);
            due(x.rests(0), true);
        });
        test("Promise 18", "Returns the least sum of costs from the place where it is to the goal", x -> {
            x.addWalker(0, 5);
            due(x.send(0, 0), 0);
            due(x.send(0, 1), 1);
            due(x.send(0, 63), 14);
            x.setHeight(63, 9);
            due(x.send(0, 63), 23);
            x.pass(1);
            due(x.send(0, 63), 23);
            x.pass(4);
            due(x.send(0, 63), 22);
        });
        test("Promise 18", "NONE if there is no way.", x -> {
            x.addWalker(0, 1);
            x.close(63);
            due(x.send(0, 63), NONE);
            x.close(63);
            due(x.send(0, 63), 14);
            closeRoundZero(x);
            due(x.send(0, 63), NONE);
            due(x.send(0, 1), NONE);
            due(x.send(0, 0), 0);
        });
    }

    private static void sendRefusals() {
        test("Promise 18", "Throws IndexOutOfBoundsException as told, of the walker", x -> {
            refused(INDEX, y -> { }, y -> y.send(0, 0));
            refusedNoWalker((y, walker) -> y.send(walker, 0));
            refusedOutside(INDEX, 0, 5, Scenes::sixWalkers, (y, walker) -> y.send(walker, 0));
        });
        test("Promise 18", "or the place", x -> {
            refusedNoPlace((y, goal) -> y.send(0, goal));
            refusedNoPlace((y, goal) -> y.send(3, goal));
        });
    }

    private static void at() {
        test("Promise 19", "Returns the place at which a walker is.", x -> {
            x.addWalker(0, 1);
            x.addWalker(63, 1);
            due(x.at(0), 0);
            due(x.at(1), 63);
            x.send(0, 63);
            due(x.at(0), 0);
            x.pass(60);
            due(x.at(0), 63);
        });
        test("Promise 19", "Throws IndexOutOfBoundsException as told", x -> {
            refused(INDEX, y -> { }, y -> y.at(0));
            refusedNoWalker((y, walker) -> y.at(walker));
        });
    }

    private static void rests() {
        test("Promise 20", "Returns whether a walker rests: it has no goal", x -> {
            x.addWalker(0, 1);
            x.addWalker(0, 1);
            due(x.rests(0), true);
            x.send(0, 1);
            due(x.rests(0), false);
            due(x.rests(1), true);
            x.pass(1);
            due(x.rests(0), true);
        });
        test("Promise 20", "and no step.", x -> {
            x.addWalker(0, 2);
            x.send(0, 1);
            x.pass(1);
            x.send(0, 0);
            due(x.rests(0), false);
            x.pass(1);
            due(x.rests(0), false);
            due(x.pass(2), 1);
            due(x.rests(0), true);
        });
        test("Promise 20", "Throws IndexOutOfBoundsException as told", x -> {
            refused(INDEX, y -> { }, y -> y.rests(0));
            refusedNoWalker((y, walker) -> y.rests(walker));
        });
    }

    /** A way of one path alone along all rows, of which each step costs 10. */
    private static void dearMaze(CairnCipher x) {
        Scenes.maze(x);
        for (int place = 0; place < 64; place++) {
            if ((place / 8 + place % 8) % 2 == 1) {
                x.setHeight(place, 9);
            }
        }
    }

    private static void ways() {
        sums("Promise 21", "Returns the least sum of costs from a place to another one, found by going on",
                (x, place, goal) -> x.way(place, goal));
        sums("Promise 22", "Returns the same, found in rounds over all places.",
                (x, place, goal) -> x.wayByRounds(place, goal));
    }

    /** What both ways to find a sum promise. */
    private static void sums(String promise, String quote, WayCall way) {
        test(promise, quote, x -> {
            due(way.on(x, 0, 0), 0);
            due(way.on(x, 63, 63), 0);
            due(way.on(x, 0, 63), 14);
            due(way.on(x, 63, 0), 14);
            due(way.on(x, 7, 56), 14);
            due(way.on(x, 62, 63), 1);
        });
        test(promise, "Returns the sum", x -> {
            dearMaze(x);
            due(way.on(x, 0, 56), 350);
            due(way.on(x, 56, 0), 350);
            due(way.on(x, 0, 7), 70);
        });
        test(promise, "NONE if there is no way.", x -> {
            closeRoundZero(x);
            due(way.on(x, 0, 63), NONE);
            due(way.on(x, 63, 0), NONE);
            due(way.on(x, 9, 1), NONE);
            due(way.on(x, 1, 1), 0);
            due(way.on(x, 1, 9), 1);
            due(way.on(x, 1, 0), 1);
            due(way.on(x, 0, 0), 0);
        });
        test(promise, "Throws IndexOutOfBoundsException as told, of either", x -> {
            refusedNoPlace((y, place) -> way.on(y, place, 0));
            refusedNoPlace((y, goal) -> way.on(y, 0, goal));
        });
    }

    private static void addWarden() {
        test("Promise 23", "Adds a warden.", x -> {
            x.addWalker(0, 1);
            x.addWalker(63, 1);
            x.addWarden(0);
            x.addWarden(63);
            due(x.sees(0), 0b01);
            due(x.sees(1), 0b10);
        });
        test("Promise 23", "Returns its number.", x -> {
            for (int i = 0; i < 4; i++) {
                due(x.addWarden(63 - i), i);
            }
        });
        test("Promise 23", "Throws IndexOutOfBoundsException as told",
                x -> refusedNoPlace((y, place) -> y.addWarden(place)));
        test("Promise 23", "Throws IllegalStateException if there are 4", x -> {
            refused(STATE, Scenes::fourWardens, y -> y.addWarden(0));
            refused(STATE, Scenes::fourWardens, y -> y.addWarden(63));
        });
    }

    private static void sees() {
        test("Promise 24", "Returns the walkers that a warden sees.", x -> {
            x.addWarden(0);
            due(x.sees(0), 0);
            x.addWalker(4, 1);
            due(x.sees(0), 0);
            x.send(0, 3);
            x.pass(1);
            due(x.sees(0), 1);
        });
        test("Promise 24", "Returns the set: bit w for the walker w.", x -> {
            x.addWarden(2);
            for (int i = 0; i < 6; i++) {
                x.addWalker(i == 2 ? 63 : 0, 1);
                due(x.sees(0), ((2 << i) - 1) & ~(i >= 2 ? 4 : 0));
            }
            x.send(2, 2);
            x.pass(60);
            due(x.sees(0), 63);
        });
        test("Promise 24", "Throws IndexOutOfBoundsException as told", x -> {
            refused(INDEX, y -> { }, y -> y.sees(0));
            refusedOutside(INDEX, 0, 0, Scenes::busy, (y, warden) -> y.sees(warden));
            refusedEach(INDEX, Scenes::busy, (y, warden) -> y.sees(warden), 2, 3, 4);
            refusedOutside(INDEX, 0, 3, Scenes::fourWardens, (y, warden) -> y.sees(warden));
        });
    }
}
