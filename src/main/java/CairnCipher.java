import java.util.ArrayList;
import java.util.NoSuchElementException;

/** Cairn and Cipher, a treasure walk; ../shared/DOC.md says what it promises. */
public final class CairnCipher {
    public static final int NONE = -1;
    public static final int ROW = 0, COLUMN = 1, HIGH = 2, NEAR = 3, SHADE = 4;

    private static final int SIDE = 8;
    private static final int PLACES = SIDE * SIDE;
    private static final int DIRECTIONS = 4;
    private static final int GREATEST_HEIGHT = 9;
    private static final int GREATEST_VALUE = 14;
    private static final int MOST_HINTS = 5;
    private static final int MOST_STAGES = 6;
    private static final int LETTERS = 27;
    // The letter 26 is 0x1F5FF, which is this pair of chars.
    private static final int WIDE_LETTER = 26;
    private static final char FIRST_OF_PAIR = (char) 0xD83D;
    private static final char SECOND_OF_PAIR = (char) 0xDDFF;
    private static final int MOST_LETTERS = 5;
    private static final int MOST_WALKERS = 6;
    private static final int GREATEST_PACE = 5;
    private static final int MOST_WARDENS = 4;
    private static final int SIGHT = 3;
    private static final int MOST_MINUTES = 60;
    private static final int LAST_MINUTE = 5000;
    private static final int FULL_POINTS = 100;
    private static final int WRONG_POINTS = 10;
    private static final int LEAST_POINTS = 10;
    private static final int MOST_CALLS = 512;

    private final Land land = new Land();
    private final Ways ways = new Ways();
    private final Text spelled = new Text();
    private final ArrayList<Stage> stages = new ArrayList<>();
    private final ArrayList<Walker> walkers = new ArrayList<>();
    private final int[] wardenPlaces = new int[MOST_WARDENS];
    private final Chronicle chronicle = new Chronicle();
    private Hints draft = new Hints();
    private int wardenCount = 0;
    private int minuteOfNow = 0;

    public CairnCipher() {
    }

    // ---- land

    public int setHeight(int place, int height) throws IndexOutOfBoundsException, IllegalArgumentException {
        requirePlace(place);
        if (height < 0 || height > GREATEST_HEIGHT) {
            throw new IllegalArgumentException();
        }
        land.shape(place, height);
        draft.lookAgainAt(place, height);
        int moved = 0;
        for (int i = 0; i < stages.size(); i++) {
            if (stages.get(i).follow(place, height)) {
                moved++;
            }
        }
        return moved;
    }

    public boolean close(int place) throws IndexOutOfBoundsException {
        requirePlace(place);
        return land.turnGate(place);
    }

    // ---- hints and stages

    public int hint(int kind, int value, int mark, boolean isDenial)
            throws IndexOutOfBoundsException, IllegalArgumentException, IllegalStateException {
        requirePlace(mark);
        if (kind < ROW || kind > SHADE || value < 0 || value > GREATEST_VALUE) {
            throw new IllegalArgumentException();
        }
        if (draft.count() >= MOST_HINTS) {
            throw new IllegalStateException();
        }
        draft.add(new Hint(kind, value, mark, isDenial), land);
        return Long.bitCount(draft.keptPlaces());
    }

    public int clearDraft() {
        int had = draft.count();
        draft.empty();
        return had;
    }

    public int stage() throws IllegalStateException {
        if (draft.keptPlace() == NONE || draft.hasNeedlessHint()
                || spelled.count() == 0 || stages.size() >= MOST_STAGES) {
            throw new IllegalStateException();
        }
        stages.add(new Stage(draft, spelled.copy()));
        draft = new Hints();
        return stages.size() - 1;
    }

    public int fits(int stage) throws IndexOutOfBoundsException {
        return Long.bitCount(requireStage(stage).hints().keptPlaces());
    }

    public int placeOf(int stage) throws IndexOutOfBoundsException {
        return requireStage(stage).standsAt();
    }

    public int placeByAll(int stage) throws IndexOutOfBoundsException {
        return requireStage(stage).hints().placeAskedOf(land);
    }

    public int moves(int stage) throws IndexOutOfBoundsException {
        return requireStage(stage).moveCount();
    }

    // ---- texts and ciphers

    public int spell(int letter) throws IndexOutOfBoundsException, IllegalStateException {
        if (letter < 0 || letter >= LETTERS) {
            throw new IndexOutOfBoundsException();
        }
        if (spelled.count() >= MOST_LETTERS) {
            throw new IllegalStateException();
        }
        spelled.append(letter);
        return spelled.charCount();
    }

    public int clearSpelled() {
        int had = spelled.count();
        spelled.empty();
        return had;
    }

    public int cipherLength(int stage) throws IndexOutOfBoundsException, NoSuchElementException {
        Stage ciphered = requireStage(stage);
        if (ciphered.standsAt() == NONE) {
            throw new NoSuchElementException();
        }
        int length = 0;
        for (int i = 0; i < ciphered.cipherCount(); i++) {
            length += charsOf(ciphered.cipherLetter(i));
        }
        return length;
    }

    public char cipherAt(int stage, int at) throws IndexOutOfBoundsException, NoSuchElementException {
        Stage ciphered = requireStage(stage);
        if (ciphered.standsAt() == NONE || at < 0) {
            throw new NoSuchElementException();
        }
        int left = at;
        for (int i = 0; i < ciphered.cipherCount(); i++) {
            int letter = ciphered.cipherLetter(i);
            if (left < charsOf(letter)) {
                return charOf(letter, left);
            }
            left -= charsOf(letter);
        }
        throw new NoSuchElementException();
    }

    // ---- walkers and wardens

    public int pass(int minutes) throws IllegalArgumentException, IllegalStateException {
        if (minutes < 1 || minutes > MOST_MINUTES) {
            throw new IllegalArgumentException();
        }
        if (minuteOfNow + minutes > LAST_MINUTE) {
            throw new IllegalStateException();
        }
        minuteOfNow += minutes;
        int arrivals = 0;
        // No walker hinders another, so each one can walk all the minutes by itself.
        for (int i = 0; i < walkers.size(); i++) {
            if (comesToGoal(walkers.get(i), minutes)) {
                arrivals++;
            }
        }
        return arrivals;
    }

    public int now() {
        return minuteOfNow;
    }

    public int addWalker(int place, int pace)
            throws IndexOutOfBoundsException, IllegalArgumentException, IllegalStateException {
        requirePlace(place);
        if (pace < 1 || pace > GREATEST_PACE) {
            throw new IllegalArgumentException();
        }
        if (walkers.size() >= MOST_WALKERS) {
            throw new IllegalStateException();
        }
        walkers.add(new Walker(place, pace));
        return walkers.size() - 1;
    }

    public int send(int walker, int goal) throws IndexOutOfBoundsException {
        Walker sent = requireWalker(walker);
        requirePlace(goal);
        sent.aimAt(goal);
        ways.measureNearestFirst(goal, land);
        return ways.sumFrom(sent.standsAt());
    }

    public int at(int walker) throws IndexOutOfBoundsException {
        return requireWalker(walker).standsAt();
    }

    public boolean rests(int walker) throws IndexOutOfBoundsException {
        return requireWalker(walker).isResting();
    }

    public int way(int place, int goal) throws IndexOutOfBoundsException {
        requirePlace(place);
        requirePlace(goal);
        ways.measureNearestFirst(goal, land);
        return ways.sumFrom(place);
    }

    public int wayByRounds(int place, int goal) throws IndexOutOfBoundsException {
        requirePlace(place);
        requirePlace(goal);
        ways.measureInRounds(goal, land);
        return ways.sumFrom(place);
    }

    public int addWarden(int place) throws IndexOutOfBoundsException, IllegalStateException {
        requirePlace(place);
        if (wardenCount < 0 || wardenCount >= wardenPlaces.length) {
            throw new IllegalStateException();
        }
        wardenPlaces[wardenCount] = place;
        wardenCount++;
        return wardenCount - 1;
    }

    public int sees(int warden) throws IndexOutOfBoundsException {
        if (warden < 0 || warden >= wardenCount || warden >= wardenPlaces.length) {
            throw new IndexOutOfBoundsException();
        }
        int seen = 0;
        for (int i = 0; i < walkers.size(); i++) {
            if (Land.distance(wardenPlaces[warden], walkers.get(i).standsAt()) <= SIGHT) {
                seen |= 1 << i;
            }
        }
        return seen;
    }

    // ---- answers and scores

    public boolean answer(int walker, int stage) throws IndexOutOfBoundsException, IllegalStateException {
        Walker answering = requireWalker(walker);
        Stage asked = requireStage(stage);
        // Stages are solved in order, so the one that is due has the number of those solved.
        if (!answering.isResting() || answering.standsAt() != asked.standsAt()
                || answering.solvedCount() != stage) {
            throw new IllegalStateException();
        }
        boolean isRight = spelled.isSameAs(asked.word());
        if (isRight) {
            answering.solve(stage);
        } else {
            answering.countWrong(stage);
        }
        chronicle.write(isRight ? Chronicle.RIGHT : Chronicle.WRONG, walker, stage);
        return isRight;
    }

    public int tell(int walker, int other, int stage)
            throws IndexOutOfBoundsException, IllegalArgumentException, IllegalStateException {
        Walker telling = requireWalker(walker);
        Walker hearing = requireWalker(other);
        requireStage(stage);
        if (walker == other) {
            throw new IllegalArgumentException();
        }
        if (!telling.hasSolved(stage) || Land.distance(telling.standsAt(), hearing.standsAt()) > 1
                || hearing.hasSolved(stage) || hearing.wasTold(stage)) {
            throw new IllegalStateException();
        }
        hearing.hear(stage);
        chronicle.write(Chronicle.TOLD, other, stage);
        return hearing.pointsOf(stage);
    }

    public int solved(int walker) throws IndexOutOfBoundsException {
        return requireWalker(walker).solvedCount();
    }

    public int score(int walker) throws IndexOutOfBoundsException {
        return requireWalker(walker).keptScore();
    }

    public int scoreAnew(int walker) throws IndexOutOfBoundsException {
        requireWalker(walker);
        return chronicle.scoreOf(walker);
    }

    public int walkerAt(int at) {
        for (int i = 0; i < walkers.size(); i++) {
            if (rankOf(i, walkers.get(i).keptScore()) == at) {
                return i;
            }
        }
        return NONE;
    }

    // ---- what the calls share

    private static void requirePlace(int place) {
        if (!Land.isPlace(place)) {
            throw new IndexOutOfBoundsException();
        }
    }

    private Stage requireStage(int number) {
        if (number < 0 || number >= stages.size()) {
            throw new IndexOutOfBoundsException();
        }
        return stages.get(number);
    }

    private Walker requireWalker(int number) {
        if (number < 0 || number >= walkers.size()) {
            throw new IndexOutOfBoundsException();
        }
        return walkers.get(number);
    }

    private boolean comesToGoal(Walker walker, int minutes) {
        boolean isMeasured = false;
        for (int i = 0; i < minutes && !walker.isResting(); i++) {
            if (!walker.hasStep()) {
                // The land stays as it is while minutes pass, so one measuring serves for all steps.
                if (!isMeasured) {
                    ways.measureNearestFirst(walker.aimsAt(), land);
                    isMeasured = true;
                }
                beginStep(walker);
            }
            if (walker.spendMinute()) {
                return true;
            }
        }
        return false;
    }

    private void beginStep(Walker walker) {
        int next = ways.bestStepFrom(walker.standsAt(), land);
        if (next == NONE) {
            walker.giveUp();
        } else {
            walker.begin(next, land.stepCost(walker.standsAt(), next));
        }
    }

    private int rankOf(int number, int mine) {
        int rank = 0;
        for (int i = 0; i < walkers.size(); i++) {
            int theirs = walkers.get(i).keptScore();
            if (theirs > mine || (theirs == mine && i < number)) {
                rank++;
            }
        }
        return rank;
    }

    private static int charsOf(int letter) {
        return letter == WIDE_LETTER ? 2 : 1;
    }

    private static char charOf(int letter, int index) {
        if (letter != WIDE_LETTER) {
            return (char) ('a' + letter);
        }
        return index == 0 ? FIRST_OF_PAIR : SECOND_OF_PAIR;
    }

    private static int pointsFor(int wrongAnswers, boolean wasTold) {
        int points = Math.max(LEAST_POINTS, FULL_POINTS - WRONG_POINTS * wrongAnswers);
        return wasTold ? points / 2 : points;
    }

    private static int onlyPlaceIn(long places) {
        for (int place = 0; place < PLACES; place++) {
            if (places == 1L << place) {
                return place;
            }
        }
        return NONE;
    }

    /** The heights of the places, and which are closed. */
    private static final class Land {
        private final int[] heights = new int[PLACES];
        private final boolean[] isClosed = new boolean[PLACES];

        static boolean isPlace(int place) {
            return place >= 0 && place < PLACES;
        }

        static int rowOf(int place) {
            return place / SIDE;
        }

        static int columnOf(int place) {
            return place % SIDE;
        }

        static int distance(int one, int other) {
            return Math.abs(rowOf(one) - rowOf(other)) + Math.abs(columnOf(one) - columnOf(other));
        }

        /** The directions go from the lowest neighbour to the greatest. */
        static int neighbour(int place, int direction) {
            switch (direction) {
                case 0:
                    return rowOf(place) > 0 ? place - SIDE : NONE;
                case 1:
                    return columnOf(place) > 0 ? place - 1 : NONE;
                case 2:
                    return columnOf(place) < SIDE - 1 ? place + 1 : NONE;
                default:
                    return rowOf(place) < SIDE - 1 ? place + SIDE : NONE;
            }
        }

        int heightOf(int place) {
            return place >= 0 && place < heights.length ? heights[place] : 0;
        }

        void shape(int place, int height) {
            if (isPlace(place)) {
                heights[place] = height;
            }
        }

        boolean canEnter(int place) {
            return isPlace(place) && !isClosed[place];
        }

        boolean turnGate(int place) {
            if (!isPlace(place)) {
                return false;
            }
            isClosed[place] = !isClosed[place];
            return isClosed[place];
        }

        int stepCost(int from, int to) {
            return 1 + Math.abs(heightOf(from) - heightOf(to));
        }
    }

    /** The least sums of costs from every place to one goal; the rows are used again by each measuring. */
    private static final class Ways {
        private static final int FAR = 1000000;

        private final int[] sums = new int[PLACES];
        private final boolean[] isSettled = new boolean[PLACES];

        /** From the goal backwards, as a closed place can be left but not entered. */
        void measureNearestFirst(int goal, Land land) {
            startAt(goal);
            for (int i = 0; i < PLACES; i++) {
                int nearest = nearestUnsettled();
                if (!Land.isPlace(nearest)) {
                    return;
                }
                isSettled[nearest] = true;
                if (land.canEnter(nearest)) {
                    reachNeighboursOf(nearest, land);
                }
            }
        }

        void measureInRounds(int goal, Land land) {
            startAt(goal);
            boolean isBetter = true;
            for (int round = 0; round < PLACES && isBetter; round++) {
                isBetter = betterAll(land);
            }
        }

        int sumFrom(int place) {
            int sum = sumKeptOf(place);
            return sum < FAR ? sum : NONE;
        }

        int bestStepFrom(int place, Land land) {
            int best = NONE;
            int least = FAR;
            for (int direction = 0; direction < DIRECTIONS; direction++) {
                int neighbour = Land.neighbour(place, direction);
                int sum = sumOver(place, neighbour, land);
                if (sum < least) {
                    least = sum;
                    best = neighbour;
                }
            }
            return best;
        }

        private void startAt(int goal) {
            for (int place = 0; place < PLACES; place++) {
                sums[place] = place == goal ? 0 : FAR;
                isSettled[place] = false;
            }
        }

        private int nearestUnsettled() {
            int nearest = NONE;
            int least = FAR;
            for (int place = 0; place < PLACES; place++) {
                if (!isSettled[place] && sums[place] < least) {
                    least = sums[place];
                    nearest = place;
                }
            }
            return nearest;
        }

        private void reachNeighboursOf(int reached, Land land) {
            for (int direction = 0; direction < DIRECTIONS; direction++) {
                int place = Land.neighbour(reached, direction);
                if (Land.isPlace(place)) {
                    sums[place] = Math.min(sums[place], sumOver(place, reached, land));
                }
            }
        }

        private boolean betterAll(Land land) {
            boolean isBetter = false;
            for (int place = 0; place < PLACES; place++) {
                int sum = sumOver(place, bestStepFrom(place, land), land);
                if (sum < sums[place]) {
                    sums[place] = sum;
                    isBetter = true;
                }
            }
            return isBetter;
        }

        private int sumOver(int place, int neighbour, Land land) {
            if (!land.canEnter(neighbour)) {
                return FAR;
            }
            return Math.min(FAR, land.stepCost(place, neighbour) + sumKeptOf(neighbour));
        }

        private int sumKeptOf(int place) {
            return Land.isPlace(place) ? sums[place] : FAR;
        }
    }

    /** One hint, with the places at which it holds: bit p for the place p. */
    private static final class Hint {
        private final int kind;
        private final int value;
        private final int mark;
        private final boolean isDenial;
        private long keptPlaces = 0;

        Hint(int kind, int value, int mark, boolean isDenial) {
            this.kind = kind;
            this.value = value;
            this.mark = mark;
            this.isDenial = isDenial;
        }

        boolean holdsAt(int place, int height) {
            boolean says;
            switch (kind) {
                case ROW:
                    says = Land.rowOf(place) < value;
                    break;
                case COLUMN:
                    says = Land.columnOf(place) < value;
                    break;
                case HIGH:
                    says = height >= value;
                    break;
                case NEAR:
                    says = Land.distance(place, mark) <= value;
                    break;
                default:
                    says = (Land.rowOf(place) + Land.columnOf(place)) % 2 == value;
                    break;
            }
            return says != isDenial;
        }

        void keep(int place, int height) {
            if (holdsAt(place, height)) {
                keptPlaces |= 1L << place;
            } else {
                keptPlaces &= ~(1L << place);
            }
        }

        long keptPlaces() {
            return keptPlaces;
        }
    }

    /** The hints of the draft, or of a stage. */
    private static final class Hints {
        private final ArrayList<Hint> hints = new ArrayList<>();

        int count() {
            return hints.size();
        }

        void empty() {
            hints.clear();
        }

        void add(Hint hint, Land land) {
            for (int place = 0; place < PLACES; place++) {
                hint.keep(place, land.heightOf(place));
            }
            hints.add(hint);
        }

        void lookAgainAt(int place, int height) {
            for (int i = 0; i < hints.size(); i++) {
                hints.get(i).keep(place, height);
            }
        }

        long keptPlaces() {
            return keptPlacesWithout(NONE);
        }

        int keptPlace() {
            return onlyPlaceIn(keptPlaces());
        }

        boolean hasNeedlessHint() {
            for (int i = 0; i < hints.size(); i++) {
                if (onlyPlaceIn(keptPlacesWithout(i)) != NONE) {
                    return true;
                }
            }
            return false;
        }

        int placeAskedOf(Land land) {
            int found = NONE;
            for (int place = 0; place < PLACES; place++) {
                if (allHoldAt(place, land.heightOf(place))) {
                    if (found != NONE) {
                        return NONE;
                    }
                    found = place;
                }
            }
            return found;
        }

        private long keptPlacesWithout(int left) {
            long places = -1L;
            for (int i = 0; i < hints.size(); i++) {
                if (i != left) {
                    places &= hints.get(i).keptPlaces();
                }
            }
            return places;
        }

        private boolean allHoldAt(int place, int height) {
            for (int i = 0; i < hints.size(); i++) {
                if (!hints.get(i).holdsAt(place, height)) {
                    return false;
                }
            }
            return true;
        }
    }

    /** A text as the numbers of its letters, as one of them is a pair of chars. */
    private static final class Text {
        private final int[] letters = new int[MOST_LETTERS];
        private int count = 0;

        int count() {
            return count;
        }

        void empty() {
            count = 0;
        }

        void append(int letter) {
            if (count >= 0 && count < letters.length) {
                letters[count] = letter;
                count++;
            }
        }

        int letterAt(int index) {
            return index >= 0 && index < count && index < letters.length ? letters[index] : 0;
        }

        int charCount() {
            int chars = 0;
            for (int i = 0; i < count; i++) {
                chars += charsOf(letterAt(i));
            }
            return chars;
        }

        boolean isSameAs(Text other) {
            if (count != other.count) {
                return false;
            }
            for (int i = 0; i < count; i++) {
                if (letterAt(i) != other.letterAt(i)) {
                    return false;
                }
            }
            return true;
        }

        Text copy() {
            Text made = new Text();
            for (int i = 0; i < count; i++) {
                made.append(letterAt(i));
            }
            return made;
        }
    }

    /** A stage: its hints, its word, and the place at which it stands, NONE if nowhere. */
    private static final class Stage {
        private final Hints hints;
        private final Text word;
        private int place;
        private int moveCount = 0;

        Stage(Hints hints, Text word) {
            this.hints = hints;
            this.word = word;
            this.place = hints.keptPlace();
        }

        Hints hints() {
            return hints;
        }

        Text word() {
            return word;
        }

        int standsAt() {
            return place;
        }

        int moveCount() {
            return moveCount;
        }

        /** Returns whether the stage has moved by the height that a place has now. */
        boolean follow(int changed, int height) {
            hints.lookAgainAt(changed, height);
            int fixed = hints.keptPlace();
            if (fixed == place) {
                return false;
            }
            place = fixed;
            moveCount++;
            return true;
        }

        int cipherCount() {
            return word.count() + 1;
        }

        int cipherLetter(int index) {
            int inserted = insertedAt();
            if (index == inserted) {
                return place % LETTERS;
            }
            int ofWord = index < inserted ? index : index - 1;
            int turned = place % 2 == 1 ? word.count() - 1 - ofWord : ofWord;
            return (word.letterAt(turned) + place) % LETTERS;
        }

        private int insertedAt() {
            int count = cipherCount();
            return count > 0 ? place % count : 0;
        }
    }

    /** A walker: where it is and goes, and what it has answered and was told. */
    private static final class Walker {
        private final int pace;
        private final int[] wrongAnswers = new int[MOST_STAGES];
        private final boolean[] isTold = new boolean[MOST_STAGES];
        private int place;
        private int goal = NONE;
        private int stepPlace = NONE;
        private int minutesLeft = 0;
        private int solvedCount = 0;
        private int keptScore = 0;

        Walker(int place, int pace) {
            this.place = place;
            this.pace = pace;
        }

        int standsAt() {
            return place;
        }

        int aimsAt() {
            return goal;
        }

        boolean hasStep() {
            return stepPlace != NONE;
        }

        boolean isResting() {
            return goal == NONE && !hasStep();
        }

        void aimAt(int wanted) {
            goal = !hasStep() && wanted == place ? NONE : wanted;
        }

        void giveUp() {
            goal = NONE;
        }

        void begin(int next, int cost) {
            stepPlace = next;
            minutesLeft = cost * pace;
        }

        /** Returns whether the walker comes to its goal by that. */
        boolean spendMinute() {
            if (!hasStep()) {
                return false;
            }
            minutesLeft--;
            if (minutesLeft > 0) {
                return false;
            }
            place = stepPlace;
            stepPlace = NONE;
            if (place != goal) {
                return false;
            }
            goal = NONE;
            return true;
        }

        int solvedCount() {
            return solvedCount;
        }

        boolean hasSolved(int stage) {
            return stage < solvedCount;
        }

        boolean wasTold(int stage) {
            return stage >= 0 && stage < isTold.length && isTold[stage];
        }

        int keptScore() {
            return keptScore;
        }

        int pointsOf(int stage) {
            int wrong = stage >= 0 && stage < wrongAnswers.length ? wrongAnswers[stage] : 0;
            return pointsFor(wrong, wasTold(stage));
        }

        void solve(int stage) {
            solvedCount++;
            keptScore += pointsOf(stage);
        }

        void countWrong(int stage) {
            if (stage >= 0 && stage < wrongAnswers.length) {
                wrongAnswers[stage]++;
            }
        }

        void hear(int stage) {
            if (stage >= 0 && stage < isTold.length) {
                isTold[stage] = true;
            }
        }
    }

    /** All answers and tellings, in their order: of whom, of which stage, and what, in one number each. */
    private static final class Chronicle {
        static final int RIGHT = 0;
        static final int WRONG = 1;
        static final int TOLD = 2;
        private static final int KINDS = 3;

        private final int[] entries = new int[MOST_CALLS];
        private int count = 0;

        void write(int kind, int walker, int stage) {
            if (count >= 0 && count < entries.length) {
                entries[count] = codeOf(walker, stage) + kind;
                count++;
            }
        }

        int scoreOf(int walker) {
            int sum = 0;
            for (int stage = 0; stage < MOST_STAGES; stage++) {
                sum += pointsFound(walker, stage);
            }
            return sum;
        }

        private int pointsFound(int walker, int stage) {
            int code = codeOf(walker, stage);
            int wrong = 0;
            boolean wasTold = false;
            for (int i = 0; i < count && i < entries.length; i++) {
                int kind = entries[i] - code;
                if (kind == RIGHT) {
                    return pointsFor(wrong, wasTold);
                }
                if (kind == WRONG) {
                    wrong++;
                }
                wasTold = wasTold || kind == TOLD;
            }
            return 0;
        }

        private static int codeOf(int walker, int stage) {
            return (walker * MOST_STAGES + stage) * KINDS;
        }
    }
}
