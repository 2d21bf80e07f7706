import java.util.ArrayList;
import java.util.List;
import java.util.NoSuchElementException;
import java.util.Random;

/**
 * Random runs of up to 512 calls, each answer (or exception) compared with that of a second program of the same
 * document, which keeps nothing that it can find anew and goes minute by minute.
 */
public final class ModelTest {
    private static final int RUNS = 3000;
    private static final int CALLS = 512;

    public static void main(String[] args) {
        for (int seed = 0; seed < RUNS && Check.wrongs() == 0; seed++) {
            new Run(seed).play();
        }
        System.out.println(Run.refused + " refused, " + Run.right + " right, " + Run.told + " told, " + Run.moved
                + " moved, " + Run.chars + " chars, " + Run.arrived + " arrived");
        Check.due("wrong inputs that were tried, enough", Run.refused > 1000, true);
        Check.due("right answers, enough", Run.right > 1000, true);
        Check.due("tellings, enough", Run.told > 1000, true);
        Check.due("moves of stages, enough", Run.moved > 1000, true);
        Check.due("ciphers' chars, enough", Run.chars > 1000, true);
        Check.due("arrivals, enough", Run.arrived > 1000, true);
        Check.end();
    }

    /** One call on both programs. */
    private interface Call {
        Object on(Face face);
    }

    private static final class Run {
        static int refused, right, told, moved, chars, arrived;

        private final Random random;
        private final int seed;
        private final Face real = new Real();
        private final Model model = new Model();
        private final StringBuilder log = new StringBuilder();
        private int calls = 0;

        Run(int seed) {
            this.seed = seed;
            random = new Random(seed);
        }

        void play() {
            for (int i = seed % 8 == 0 ? 70 : 0; i > 0; i--) {
                pass(60);
            }
            for (int i = random.nextInt(7); i > 0; i--) {
                int start = random.nextInt(64);
                int pace = 1 + random.nextInt(5);
                call("addWalker(" + start + ", " + pace + ")", f -> f.addWalker(start, pace));
            }
            for (int i = 0; i < CALLS && calls < CALLS && Check.wrongs() == 0; i++) {
                switch (random.nextInt(12)) {
                    case 0: walkToDueStage(); break;
                    case 1: answerOrTell(); break;
                    case 2: makeStageIfDue(); break;
                    default: anyCall(); break;
                }
            }
        }

        private void makeStageIfDue() {
            if (model.stages.size() < 6 || random.nextInt(8) == 0) {
                makeStage();
            }
        }

        private int highPlace() {
            int start = random.nextInt(64);
            for (int i = 0; i < 64; i++) {
                if (model.heights[(start + i) % 64] > 4) {
                    return (start + i) % 64;
                }
            }
            return start;
        }

        private Object call(String name, Call call) {
            if (calls >= CALLS) {
                return "";
            }
            calls++;
            Object want = outcome(call, model);
            Object got = outcome(call, real);
            log.append(name).append(" -> ").append(want).append('\n');
            if (!got.equals(want)) {
                System.out.println("run of seed " + seed + ":\n" + log);
            }
            Check.due(name, got, want);
            if (want instanceof String) {
                refused++;
            }
            return want;
        }

        private static Object outcome(Call call, Face face) {
            try {
                return call.on(face);
            } catch (RuntimeException e) {
                boolean isOfLibrary = face instanceof Real && !Check.isThrownByTheClass(e);
                return "throws " + e.getClass().getName() + (isOfLibrary ? " of the library's" : "");
            }
        }

        private int place() {
            switch (random.nextInt(16)) {
                case 0: return random.nextBoolean() ? -1 : 64;
                case 1: return random.nextInt();
                case 2: case 3: case 4: {
                    int stage = random.nextInt(6);
                    return stage < model.stages.size() ? Math.max(0, model.placeByAll(stage)) : random.nextInt(64);
                }
                case 5: case 6: return 9 * random.nextInt(2) + random.nextInt(3);
                default: return random.nextInt(64);
            }
        }

        private int upTo(int most) {
            switch (random.nextInt(20)) {
                case 0: return -1;
                case 1: return most + 1;
                case 2: return random.nextInt();
                default: return random.nextInt(most + 1);
            }
        }

        private int of(int size) {
            return size == 0 || random.nextInt(25) == 0 ? upTo(size) : random.nextInt(size);
        }

        private int walker() {
            return of(model.walkers.size());
        }

        private int someStage() {
            return of(model.stages.size());
        }

        private void makeStage() {
            if (random.nextInt(3) == 0) {
                call("clearSpelled()", f -> f.clearSpelled());
            }
            int letters = random.nextInt(4);
            for (int i = 0; i < letters; i++) {
                spell(random.nextInt(3) == 0 ? 26 : random.nextInt(27));
            }
            if (random.nextInt(3) > 0) {
                call("clearDraft()", f -> f.clearDraft());
            }
            if (random.nextInt(3) == 0) {
                hint(3, 0, random.nextInt(64), false);
            } else {
                int place = random.nextInt(64);
                setHeight(place, 5 + random.nextInt(5));
                hint(2, 5 + random.nextInt(3), 0, false);
                if (random.nextBoolean()) {
                    hint(random.nextInt(5), random.nextInt(9), place, random.nextBoolean());
                }
            }
            call("stage()", f -> f.stage());
        }

        private void spell(int letter) {
            call("spell(" + letter + ")", f -> f.spell(letter));
        }

        private void hint(int kind, int value, int mark, boolean isDenial) {
            call("hint(" + kind + ", " + value + ", " + mark + ", " + isDenial + ")",
                    f -> f.hint(kind, value, mark, isDenial));
        }

        private void setHeight(int place, int height) {
            Object answer = call("setHeight(" + place + ", " + height + ")", f -> f.setHeight(place, height));
            moved += answer instanceof Integer && (Integer) answer > 0 ? 1 : 0;
        }

        private void send(int walker, int goal) {
            call("send(" + walker + ", " + goal + ")", f -> f.send(walker, goal));
        }

        private void pass(int minutes) {
            Object answer = call("pass(" + minutes + ")", f -> f.pass(minutes));
            arrived += answer instanceof Integer && (Integer) answer > 0 ? 1 : 0;
        }

        private void answer(int walker, int stage) {
            Object answer = call("answer(" + walker + ", " + stage + ")", f -> f.answer(walker, stage));
            right += answer.equals(true) ? 1 : 0;
        }

        private void tell(int walker, int other, int stage) {
            Object answer = call("tell(" + walker + ", " + other + ", " + stage + ")",
                    f -> f.tell(walker, other, stage));
            told += answer instanceof Integer ? 1 : 0;
        }

        private void walkToDueStage() {
            int walker = random.nextInt(6);
            if (walker < model.walkers.size()) {
                int due = model.solved(walker);
                if (due < model.stages.size() && model.placeByAll(due) >= 0) {
                    send(walker, model.placeByAll(due));
                    pass(60);
                }
            }
        }

        private void answerOrTell() {
            int walker = random.nextInt(6);
            if (walker >= model.walkers.size()) {
                return;
            }
            int due = model.solved(walker);
            if (due > 0 && random.nextBoolean()) {
                bringAndTell(walker, random.nextInt(model.walkers.size()), due - 1 - random.nextInt(due));
            } else if (due < model.stages.size()) {
                if (random.nextInt(3) > 0) {
                    call("clearSpelled()", f -> f.clearSpelled());
                    for (int letter : model.stages.get(due).word) {
                        spell(letter);
                    }
                }
                answer(walker, due);
            }
        }

        private void bringAndTell(int walker, int other, int stage) {
            if (walker != other) {
                send(other, Math.max(0, Math.min(63, model.at(walker) + random.nextInt(3) - 1)));
                pass(60);
            }
            tell(walker, other, stage);
            if (random.nextBoolean()) {
                answer(other, stage);
            }
        }

        private void anyCall() {
            int walker = walker();
            int stage = someStage();
            int place = place();
            int other = place();
            switch (random.nextInt(28)) {
                case 0: setHeight(place, upTo(9)); break;
                case 1: setHeight(highPlace(), random.nextInt(5)); break;
                case 2: call("close(" + place + ")", f -> f.close(place)); break;
                case 3: hint(upTo(4), upTo(14), place, random.nextBoolean()); break;
                case 4: call("clearDraft()", f -> f.clearDraft()); break;
                case 5: call("stage()", f -> f.stage()); break;
                case 6: call("fits(" + stage + ")", f -> f.fits(stage)); break;
                case 7: call("placeOf(" + stage + ")", f -> f.placeOf(stage)); break;
                case 8: call("placeByAll(" + stage + ")", f -> f.placeByAll(stage)); break;
                case 9: call("moves(" + stage + ")", f -> f.moves(stage)); break;
                case 10: spell(upTo(26)); break;
                case 11: call("cipherLength(" + stage + ")", f -> f.cipherLength(stage)); break;
                case 12: case 13: {
                    int at = random.nextInt(30) == 0 ? random.nextInt() : random.nextInt(10) - 1;
                    Object answer = call("cipherAt(" + stage + ", " + at + ")", f -> f.cipherAt(stage, at));
                    chars += answer instanceof Character ? 1 : 0;
                    break;
                }
                case 14: pass(random.nextBoolean() ? upTo(5) : upTo(60)); break;
                case 15: call("now()", f -> f.now()); break;
                case 16: {
                    int pace = upTo(5);
                    call("addWalker(" + place + ", " + pace + ")", f -> f.addWalker(place, pace));
                    break;
                }
                case 17: send(walker, place); break;
                case 18: call("at(" + walker + ")", f -> f.at(walker)); break;
                case 19: call("rests(" + walker + ")", f -> f.rests(walker)); break;
                case 20: call("way(" + place + ", " + other + ")", f -> f.way(place, other)); break;
                case 21: call("wayByRounds(" + place + ", " + other + ")", f -> f.wayByRounds(place, other)); break;
                case 22: call("addWarden(" + place + ")", f -> f.addWarden(place)); break;
                case 23: call("sees(" + stage + ")", f -> f.sees(stage)); break;
                case 24: answer(walker, stage); break;
                case 25: tell(walker, walker(), stage); break;
                case 26: call("solved(" + walker + ")", f -> f.solved(walker)); break;
                default:
                    call("score(" + walker + ")", f -> f.score(walker));
                    call("scoreAnew(" + walker + ")", f -> f.scoreAnew(walker));
                    call("walkerAt(" + stage + ")", f -> f.walkerAt(stage));
                    break;
            }
        }
    }

    private interface Face {
        int setHeight(int place, int height);
        boolean close(int place);
        int hint(int kind, int value, int mark, boolean isDenial);
        int clearDraft();
        int stage();
        int fits(int stage);
        int placeOf(int stage);
        int placeByAll(int stage);
        int moves(int stage);
        int spell(int letter);
        int clearSpelled();
        int cipherLength(int stage);
        char cipherAt(int stage, int at);
        int pass(int minutes);
        int now();
        int addWalker(int place, int pace);
        int send(int walker, int goal);
        int at(int walker);
        boolean rests(int walker);
        int way(int place, int goal);
        int wayByRounds(int place, int goal);
        int addWarden(int place);
        int sees(int warden);
        boolean answer(int walker, int stage);
        int tell(int walker, int other, int stage);
        int solved(int walker);
        int score(int walker);
        int scoreAnew(int walker);
        int walkerAt(int at);
    }

    private static final class Real implements Face {
        private final CairnCipher x = new CairnCipher();

        public int setHeight(int place, int height) { return x.setHeight(place, height); }
        public boolean close(int place) { return x.close(place); }
        public int hint(int kind, int value, int mark, boolean isDenial) {
            return x.hint(kind, value, mark, isDenial);
        }
        public int clearDraft() { return x.clearDraft(); }
        public int stage() { return x.stage(); }
        public int fits(int stage) { return x.fits(stage); }
        public int placeOf(int stage) { return x.placeOf(stage); }
        public int placeByAll(int stage) { return x.placeByAll(stage); }
        public int moves(int stage) { return x.moves(stage); }
        public int spell(int letter) { return x.spell(letter); }
        public int clearSpelled() { return x.clearSpelled(); }
        public int cipherLength(int stage) { return x.cipherLength(stage); }
        public char cipherAt(int stage, int at) { return x.cipherAt(stage, at); }
        public int pass(int minutes) { return x.pass(minutes); }
        public int now() { return x.now(); }
        public int addWalker(int place, int pace) { return x.addWalker(place, pace); }
        public int send(int walker, int goal) { return x.send(walker, goal); }
        public int at(int walker) { return x.at(walker); }
        public boolean rests(int walker) { return x.rests(walker); }
        public int way(int place, int goal) { return x.way(place, goal); }
        public int wayByRounds(int place, int goal) { return x.wayByRounds(place, goal); }
        public int addWarden(int place) { return x.addWarden(place); }
        public int sees(int warden) { return x.sees(warden); }
        public boolean answer(int walker, int stage) { return x.answer(walker, stage); }
        public int tell(int walker, int other, int stage) { return x.tell(walker, other, stage); }
        public int solved(int walker) { return x.solved(walker); }
        public int score(int walker) { return x.score(walker); }
        public int scoreAnew(int walker) { return x.scoreAnew(walker); }
        public int walkerAt(int at) { return x.walkerAt(at); }
    }

    /** The second program: the document again, in the plainest way that the Java library allows. */
    private static final class Model implements Face {
        private static final int FAR = 1 << 20;

        private static final class StageModel {
            final List<int[]> hints = new ArrayList<>();
            List<Integer> word = new ArrayList<>();
            int moves;
        }

        private static final class WalkerModel {
            int place, pace;
            Integer goal, step;
            int left;
        }

        /** What happened: the walker, the stage, and 'r', 'w' or 't'. */
        private record Event(int walker, int stage, char kind) {
        }

        private final int[] heights = new int[64];
        private final boolean[] closed = new boolean[64];
        private List<int[]> draft = new ArrayList<>();
        private List<Integer> spelled = new ArrayList<>();
        final List<StageModel> stages = new ArrayList<>();
        final List<WalkerModel> walkers = new ArrayList<>();
        private final List<Integer> wardens = new ArrayList<>();
        private final List<Event> events = new ArrayList<>();
        private final int[][] sums = new int[64][];
        private int now;

        private static void index(boolean isThere) {
            if (!isThere) {
                throw new IndexOutOfBoundsException();
            }
        }

        private static void argument(boolean isRight) {
            if (!isRight) {
                throw new IllegalArgumentException();
            }
        }

        private static void state(boolean isRight) {
            if (!isRight) {
                throw new IllegalStateException();
            }
        }

        private static boolean in(int number, int size) {
            return 0 <= number && number < size;
        }

        private boolean holds(int[] hint, int place) {
            int row = place / 8, column = place % 8, value = hint[1];
            boolean says = switch (hint[0]) {
                case 0 -> row < value;
                case 1 -> column < value;
                case 2 -> heights[place] >= value;
                case 3 -> distance(place, hint[2]) <= value;
                default -> (row + column) % 2 == value;
            };
            return hint[3] == 1 ? !says : says;
        }

        private static int distance(int one, int other) {
            return Math.abs(one / 8 - other / 8) + Math.abs(one % 8 - other % 8);
        }

        private List<Integer> places(List<int[]> hints) {
            List<Integer> found = new ArrayList<>();
            for (int place = 0; place < 64; place++) {
                boolean all = true;
                for (int[] hint : hints) {
                    all &= holds(hint, place);
                }
                if (all) {
                    found.add(place);
                }
            }
            return found;
        }

        private int fixed(List<int[]> hints) {
            List<Integer> found = places(hints);
            return found.size() == 1 ? found.get(0) : -1;
        }

        private void forgetWays() {
            java.util.Arrays.fill(sums, null);
        }

        public int setHeight(int place, int height) {
            index(in(place, 64));
            argument(in(height, 10));
            List<Integer> before = new ArrayList<>();
            for (StageModel stage : stages) {
                before.add(fixed(stage.hints));
            }
            heights[place] = height;
            forgetWays();
            int moved = 0;
            for (int i = 0; i < stages.size(); i++) {
                if (before.get(i) != fixed(stages.get(i).hints)) {
                    stages.get(i).moves++;
                    moved++;
                }
            }
            return moved;
        }

        public boolean close(int place) {
            index(in(place, 64));
            forgetWays();
            return closed[place] = !closed[place];
        }

        public int hint(int kind, int value, int mark, boolean isDenial) {
            index(in(mark, 64));
            argument(in(kind, 5) && in(value, 15));
            state(draft.size() < 5);
            draft.add(new int[] {kind, value, mark, isDenial ? 1 : 0});
            return places(draft).size();
        }

        public int clearDraft() {
            int had = draft.size();
            draft = new ArrayList<>();
            return had;
        }

        public int stage() {
            state(fixed(draft) >= 0);
            for (int i = 0; i < draft.size(); i++) {
                List<int[]> rest = new ArrayList<>(draft);
                rest.remove(i);
                state(fixed(rest) < 0);
            }
            state(!spelled.isEmpty());
            state(stages.size() < 6);
            StageModel made = new StageModel();
            made.hints.addAll(draft);
            made.word = List.copyOf(spelled);
            stages.add(made);
            draft = new ArrayList<>();
            return stages.size() - 1;
        }

        private StageModel theStage(int stage) {
            index(in(stage, stages.size()));
            return stages.get(stage);
        }

        public int fits(int stage) {
            return places(theStage(stage).hints).size();
        }

        public int placeOf(int stage) {
            return fixed(theStage(stage).hints);
        }

        public int placeByAll(int stage) {
            return fixed(theStage(stage).hints);
        }

        public int moves(int stage) {
            return theStage(stage).moves;
        }

        private static String text(List<Integer> letters) {
            StringBuilder made = new StringBuilder();
            for (int letter : letters) {
                made.appendCodePoint(letter == 26 ? 0x1F5FF : 'a' + letter);
            }
            return made.toString();
        }

        public int spell(int letter) {
            index(in(letter, 27));
            state(spelled.size() < 5);
            spelled.add(letter);
            return text(spelled).length();
        }

        public int clearSpelled() {
            int had = spelled.size();
            spelled.clear();
            return had;
        }

        private String cipher(int stage) {
            int place = placeOf(stage);
            if (place < 0) {
                throw new NoSuchElementException();
            }
            List<Integer> letters = new ArrayList<>();
            for (int letter : stages.get(stage).word) {
                letters.add((letter + place) % 27);
            }
            if (place % 2 == 1) {
                java.util.Collections.reverse(letters);
            }
            letters.add(place % (letters.size() + 1), place % 27);
            return text(letters);
        }

        public int cipherLength(int stage) {
            return cipher(stage).length();
        }

        public char cipherAt(int stage, int at) {
            String text = cipher(stage);
            if (!in(at, text.length())) {
                throw new NoSuchElementException();
            }
            return text.charAt(at);
        }

        private List<Integer> openNeighbours(int place) {
            List<Integer> found = new ArrayList<>();
            for (int other = 0; other < 64; other++) {
                if (distance(place, other) == 1 && !closed[other]) {
                    found.add(other);
                }
            }
            return found;
        }

        private int cost(int from, int to) {
            return 1 + Math.abs(heights[from] - heights[to]);
        }

        /** The sums to a goal, bettered by every step until none betters them. */
        private int[] sumsTo(int goal) {
            if (sums[goal] == null) {
                int[] found = new int[64];
                java.util.Arrays.fill(found, FAR);
                found[goal] = 0;
                for (boolean isBetter = true; isBetter;) {
                    isBetter = false;
                    for (int place = 0; place < 64; place++) {
                        for (int next : openNeighbours(place)) {
                            if (found[next] + cost(place, next) < found[place]) {
                                found[place] = found[next] + cost(place, next);
                                isBetter = true;
                            }
                        }
                    }
                }
                sums[goal] = found;
            }
            return sums[goal];
        }

        private void beginStep(WalkerModel walker) {
            int best = -1;
            int least = FAR;
            if (walker.place != walker.goal) {
                for (int next : openNeighbours(walker.place)) {
                    int sum = cost(walker.place, next) + sumsTo(walker.goal)[next];
                    if (sum < least) {
                        least = sum;
                        best = next;
                    }
                }
            }
            if (best < 0) {
                walker.goal = null;
            } else {
                walker.step = best;
                walker.left = cost(walker.place, best) * walker.pace;
            }
        }

        public int pass(int minutes) {
            argument(1 <= minutes && minutes <= 60);
            state(now + minutes <= 5000);
            int arrived = 0;
            for (int i = 0; i < minutes; i++) {
                now++;
                for (WalkerModel walker : walkers) {
                    if (walker.step == null && walker.goal != null) {
                        beginStep(walker);
                    }
                    if (walker.step != null && --walker.left == 0) {
                        walker.place = walker.step;
                        walker.step = null;
                        if (walker.place == walker.goal) {
                            walker.goal = null;
                            arrived++;
                        }
                    }
                }
            }
            return arrived;
        }

        public int now() {
            return now;
        }

        public int addWalker(int place, int pace) {
            index(in(place, 64));
            argument(1 <= pace && pace <= 5);
            state(walkers.size() < 6);
            WalkerModel made = new WalkerModel();
            made.place = place;
            made.pace = pace;
            walkers.add(made);
            return walkers.size() - 1;
        }

        private WalkerModel theWalker(int walker) {
            index(in(walker, walkers.size()));
            return walkers.get(walker);
        }

        public int send(int walker, int goal) {
            WalkerModel sent = theWalker(walker);
            index(in(goal, 64));
            sent.goal = goal;
            if (sent.step == null && sent.place == goal) {
                sent.goal = null;
            }
            return way(sent.place, goal);
        }

        public int at(int walker) {
            return theWalker(walker).place;
        }

        public boolean rests(int walker) {
            WalkerModel asked = theWalker(walker);
            return asked.goal == null && asked.step == null;
        }

        public int way(int place, int goal) {
            index(in(place, 64) && in(goal, 64));
            int sum = sumsTo(goal)[place];
            return sum == FAR ? -1 : sum;
        }

        public int wayByRounds(int place, int goal) {
            return way(place, goal);
        }

        public int addWarden(int place) {
            index(in(place, 64));
            state(wardens.size() < 4);
            wardens.add(place);
            return wardens.size() - 1;
        }

        public int sees(int warden) {
            index(in(warden, wardens.size()));
            int set = 0;
            for (int i = 0; i < walkers.size(); i++) {
                if (distance(walkers.get(i).place, wardens.get(warden)) <= 3) {
                    set += 1 << i;
                }
            }
            return set;
        }

        private int count(int walker, int stage, char kind) {
            int count = 0;
            for (Event event : events) {
                count += event.equals(new Event(walker, stage, kind)) ? 1 : 0;
            }
            return count;
        }

        private int points(int walker, int stage) {
            int points = Math.max(100 - 10 * count(walker, stage, 'w'), 10);
            return count(walker, stage, 't') > 0 ? points / 2 : points;
        }

        private boolean hasSolved(int walker, int stage) {
            return count(walker, stage, 'r') > 0;
        }

        public boolean answer(int walker, int stage) {
            index(in(walker, walkers.size()) && in(stage, stages.size()));
            state(rests(walker) && placeOf(stage) == at(walker));
            for (int lower = 0; lower < stage; lower++) {
                state(hasSolved(walker, lower));
            }
            state(!hasSolved(walker, stage));
            boolean isRight = text(spelled).equals(text(stages.get(stage).word));
            events.add(new Event(walker, stage, isRight ? 'r' : 'w'));
            return isRight;
        }

        public int tell(int walker, int other, int stage) {
            index(in(walker, walkers.size()) && in(other, walkers.size()) && in(stage, stages.size()));
            argument(walker != other);
            state(hasSolved(walker, stage));
            state(distance(at(walker), at(other)) <= 1);
            state(!hasSolved(other, stage) && count(other, stage, 't') == 0);
            events.add(new Event(other, stage, 't'));
            return points(other, stage);
        }

        public int solved(int walker) {
            theWalker(walker);
            int count = 0;
            for (int stage = 0; stage < stages.size(); stage++) {
                count += hasSolved(walker, stage) ? 1 : 0;
            }
            return count;
        }

        public int score(int walker) {
            theWalker(walker);
            int sum = 0;
            for (int stage = 0; stage < stages.size(); stage++) {
                sum += hasSolved(walker, stage) ? points(walker, stage) : 0;
            }
            return sum;
        }

        public int scoreAnew(int walker) {
            return score(walker);
        }

        public int walkerAt(int at) {
            List<Integer> order = new ArrayList<>();
            for (int i = 0; i < walkers.size(); i++) {
                order.add(i);
            }
            order.sort((one, other) -> score(other) - score(one));
            return in(at, order.size()) ? order.get(at) : -1;
        }
    }
}
