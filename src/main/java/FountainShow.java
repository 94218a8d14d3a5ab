import java.util.NoSuchElementException;

/** A choreographer for a fountain; what each call promises stands in the project's document. */
public final class FountainShow {
    private static final int MAX_JETS = 10;
    private static final int MAX_POSITION = 99;
    private static final int MAX_OPENING = 10;
    private static final int MAX_CAPACITY = 100;
    private static final int FIRST_CAPACITY = 40;
    private static final int MAX_WIND = 9;
    private static final int MAX_FIGURES = 5;
    private static final int MAX_STEPS = 8;
    private static final int MAX_DELAY = 20;
    private static final int MAX_ENTRIES = 6;
    private static final int MAX_WAIT = 30;
    private static final int MAX_BEATS = 40;
    private static final int MAX_INPUT = 60;
    private static final int MAX_CHANGES = 8;
    /** The most numbers in one command: those of "step". */
    private static final int MAX_NUMBERS = 4;
    private static final int NOTHING = -1;
    private static final Command[] COMMANDS = Command.values();

    private final Stage stage = new Stage();
    /** A second stage for forecasts and for commands that may still fail, made once to save room. */
    private final Stage trial = new Stage();
    private final Stage saved = new Stage();
    private boolean isSaved = false;
    /** The stages before the latest changes; a ring, as the ninth change pushes out the first. */
    private final Stage[] history = new Stage[MAX_CHANGES];
    private int historyNext = 0;
    private int historyCount = 0;
    private final LandingSorter sorter = new LandingSorter();
    private final Script script = new Script();
    private final StringBuilder output = new StringBuilder();
    private int keptErrorPosition = NOTHING;
    private int keptFailedCommand = NOTHING;

    public FountainShow() {
        for (int change = 0; change < MAX_CHANGES; change++) {
            history[change] = new Stage();
        }
    }

    // Jets.

    public int addJet(int position)
            throws IllegalArgumentException, UnsupportedOperationException, IllegalStateException {
        refuse(stage.jets.problemOfAdding(position));
        remember();
        return stage.jets.append(position);
    }

    public int removeJet(int jet) throws IndexOutOfBoundsException {
        requireJet(jet);
        remember();
        return stage.dropJet(jet);
    }

    public int setOpening(int jet, int opening) throws IndexOutOfBoundsException, IllegalArgumentException {
        refuse(stage.jets.problemOfOpening(jet, opening));
        remember();
        return stage.jets.changeOpening(jet, opening);
    }

    public int jetCount() {
        return stage.jets.count;
    }

    public int position(int jet) throws IndexOutOfBoundsException {
        requireJet(jet);
        return stage.jets.positions[jet];
    }

    public int opening(int jet) throws IndexOutOfBoundsException {
        requireJet(jet);
        return stage.jets.openings[jet];
    }

    public int height(int jet) throws IndexOutOfBoundsException {
        requireJet(jet);
        return stage.jets.heightOf(jet, stage.jets.sumOfOpenings());
    }

    public int landing(int jet) throws IndexOutOfBoundsException {
        requireJet(jet);
        return stage.jets.landingOf(jet, stage.jets.sumOfOpenings());
    }

    public boolean isWild(int jet) throws IndexOutOfBoundsException {
        requireJet(jet);
        return Jets.isOutside(stage.jets.landingOf(jet, stage.jets.sumOfOpenings()));
    }

    public int wildCount() {
        return stage.jets.countWild();
    }

    public int highestJet() throws NoSuchElementException {
        requireAnyJet();
        return stage.jets.findHighest();
    }

    public int jetByPosition(int rank) throws NoSuchElementException {
        if (!stage.jets.has(rank)) {
            throw new NoSuchElementException("there is no such place in the order of positions");
        }
        return stage.jets.findByRank(rank);
    }

    public int nearestLanding(int place) throws NoSuchElementException {
        requireAnyJet();
        return stage.jets.findNearestLanding(place);
    }

    public int crossings() {
        return stage.jets.countCrossingPairs();
    }

    public int crossingsByMerging() {
        return sorter.countInversions(stage.jets);
    }

    // Pump and wind.

    public int setCapacity(int capacity) throws IllegalArgumentException {
        refuse(stage.jets.problemOfCapacity(capacity));
        remember();
        return stage.jets.changeCapacity(capacity);
    }

    public int setWind(int wind) throws IllegalArgumentException {
        refuse(stage.jets.problemOfWind(wind));
        remember();
        return stage.jets.changeWind(wind);
    }

    public int trim() {
        remember();
        return stage.jets.closeWildJets();
    }

    public int capacity() {
        return stage.jets.capacity;
    }

    public int wind() {
        return stage.jets.wind;
    }

    public int demand() {
        return stage.jets.sumOfOpenings();
    }

    public int supply() {
        return stage.jets.supplyFor(stage.jets.sumOfOpenings());
    }

    public long pumped() {
        return stage.pumped;
    }

    public long shortage() {
        return stage.shortage;
    }

    // Figures.

    public int addFigure() throws IllegalStateException {
        refuse(stage.figures.problemOfAdding());
        remember();
        return stage.figures.append();
    }

    public int removeFigure(int figure) throws IndexOutOfBoundsException, IllegalStateException {
        refuse(stage.problemOfDroppingFigure(figure));
        remember();
        return stage.dropFigure(figure);
    }

    public int addStep(int figure, int delay, int jet, int opening)
            throws IndexOutOfBoundsException, IllegalArgumentException, IllegalStateException {
        refuse(stage.problemOfStep(figure, delay, jet, opening));
        remember();
        return stage.figures.appendStep(figure, delay, jet, opening);
    }

    public int removeStep(int figure, int step) throws IndexOutOfBoundsException {
        requireStep(figure, step);
        remember();
        return stage.figures.dropStep(figure, step);
    }

    public int figureCount() {
        return stage.figures.count;
    }

    public int stepCount(int figure) throws IndexOutOfBoundsException {
        requireFigure(figure);
        return stage.figures.stepCounts[figure];
    }

    public int stepDelay(int figure, int step) throws IndexOutOfBoundsException {
        requireStep(figure, step);
        return stage.figures.delays[slot(figure, step)];
    }

    public int stepJet(int figure, int step) throws IndexOutOfBoundsException {
        requireStep(figure, step);
        return stage.figures.jets[slot(figure, step)];
    }

    public int stepOpening(int figure, int step) throws IndexOutOfBoundsException {
        requireStep(figure, step);
        return stage.figures.openings[slot(figure, step)];
    }

    public int figureLength(int figure) throws IndexOutOfBoundsException {
        requireFigure(figure);
        return stage.figures.lengthOf(figure);
    }

    public int figuresUsing(int jet) throws IndexOutOfBoundsException {
        requireJet(jet);
        return stage.figures.countUsing(jet);
    }

    // Queue and beats.

    public int play(int figure, int wait)
            throws IndexOutOfBoundsException, IllegalArgumentException, IllegalStateException {
        refuse(stage.problemOfPlaying(figure, wait));
        remember();
        return stage.appendEntry(figure, wait);
    }

    public int cancel(int entry) throws IndexOutOfBoundsException {
        requireEntry(entry);
        remember();
        return stage.dropEntry(entry);
    }

    public int pass(int beats) throws IllegalArgumentException {
        refuse(stage.problemOfPassing(beats));
        remember();
        return stage.passBeats(beats);
    }

    public int beat() {
        return stage.beat;
    }

    public int queueLength() {
        return stage.entryCount;
    }

    public int entryFigure(int entry) throws IndexOutOfBoundsException {
        requireEntry(entry);
        return stage.entryFigures[entry];
    }

    public int entryStart(int entry) throws IndexOutOfBoundsException {
        requireEntry(entry);
        return stage.entryStarts[entry];
    }

    public int beatsUntilEmpty() {
        return stage.beatsToEmptyQueue();
    }

    public int demandAfter(int beats) throws IllegalArgumentException {
        requireForecast(beats);
        trial.copyFrom(stage);
        trial.passBeats(beats);
        return trial.jets.sumOfOpenings();
    }

    public int demandAfterBySteps(int beats) throws IllegalArgumentException {
        requireForecast(beats);
        return stage.demandFromLastSteps(beats);
    }

    public int firstOverload(int beats) throws IllegalArgumentException, NoSuchElementException {
        requireForecast(beats);
        trial.copyFrom(stage);
        for (int passed = 1; passed <= beats; passed++) {
            trial.passOneBeat();
            if (trial.jets.sumOfOpenings() > trial.jets.capacity) {
                return passed;
            }
        }
        throw new NoSuchElementException("no overload among these beats");
    }

    // Statistics, output, commands, undo and saved state.

    public double meanOpening() throws ArithmeticException {
        int count = stage.jets.count;
        if (count == 0) {
            throw new ArithmeticException("there are no jets");
        }
        return (double) stage.jets.sumOfOpenings() / (double) count;
    }

    public float supplyFraction() throws ArithmeticException {
        int demand = stage.jets.sumOfOpenings();
        if (demand == 0) {
            throw new ArithmeticException("the demand is 0");
        }
        return (float) stage.jets.supplyFor(demand) / (float) demand;
    }

    public int writeFigure(int figure) throws IndexOutOfBoundsException {
        requireFigure(figure);
        output.setLength(0);
        for (int step = 0; step < stage.figures.stepCounts[figure]; step++) {
            writeStep(slot(figure, step));
        }
        return output.length();
    }

    public char outputCharacter(int index) throws IndexOutOfBoundsException {
        if (index < 0 || index >= output.length()) {
            throw new IndexOutOfBoundsException("there is no such character");
        }
        return output.charAt(index);
    }

    public boolean isConsistent() {
        if (stage.jets.countCrossingPairs() != sorter.countInversions(stage.jets)) {
            return false;
        }
        trial.copyFrom(stage);
        for (int beats = 0; beats <= MAX_BEATS; beats++) {
            if (trial.jets.sumOfOpenings() != stage.demandFromLastSteps(beats)) {
                return false;
            }
            trial.passOneBeat();
        }
        return true;
    }

    public int feed(char character) throws IllegalStateException {
        if (script.isFull()) {
            throw new IllegalStateException("the input buffer is full");
        }
        return script.append(character);
    }

    public int execute() throws IllegalArgumentException, UnsupportedOperationException {
        int error = script.findError();
        if (error != NOTHING) {
            script.length = 0;
            keptErrorPosition = error;
            throw new IllegalArgumentException("the text is malformed");
        }
        trial.copyFrom(stage);
        int performed = performUntilProblem();
        script.length = 0;
        if (performed < script.commandCount) {
            keptFailedCommand = performed;
            throw new UnsupportedOperationException("a command failed");
        }
        remember();
        stage.copyFrom(trial);
        return performed;
    }

    public int errorPosition() throws NoSuchElementException {
        if (keptErrorPosition == NOTHING) {
            throw new NoSuchElementException("no error position was kept");
        }
        return keptErrorPosition;
    }

    public int failedCommand() throws NoSuchElementException {
        if (keptFailedCommand == NOTHING) {
            throw new NoSuchElementException("no failed command was kept");
        }
        return keptFailedCommand;
    }

    public int undo() throws IllegalStateException {
        if (historyCount == 0) {
            throw new IllegalStateException("there is no change to undo");
        }
        historyNext = historyNext == 0 ? MAX_CHANGES - 1 : historyNext - 1;
        historyCount--;
        stage.copyFrom(history[historyNext]);
        return historyCount;
    }

    public int undoCount() {
        return historyCount;
    }

    public int save() {
        saved.copyFrom(stage);
        isSaved = true;
        return stage.jets.count;
    }

    public int restore() throws IllegalStateException {
        if (!isSaved) {
            throw new IllegalStateException("nothing was saved");
        }
        stage.copyFrom(saved);
        historyCount = 0;
        return stage.jets.count;
    }

    // What the calls above share.

    private void remember() {
        history[historyNext].copyFrom(stage);
        historyNext = historyNext == MAX_CHANGES - 1 ? 0 : historyNext + 1;
        historyCount = Math.min(historyCount + 1, MAX_CHANGES);
    }

    private static void refuse(Problem problem) {
        switch (problem) {
            case INDEX:
                throw new IndexOutOfBoundsException("there is no such index");
            case ARGUMENT:
                throw new IllegalArgumentException("a number is out of its range");
            case UNSUPPORTED:
                throw new UnsupportedOperationException("the position is taken");
            case STATE:
                throw new IllegalStateException("the state does not allow it");
            default:
                return;
        }
    }

    private void requireJet(int jet) {
        if (!stage.jets.has(jet)) {
            throw new IndexOutOfBoundsException("there is no such jet");
        }
    }

    private void requireAnyJet() {
        if (stage.jets.count == 0) {
            throw new NoSuchElementException("there are no jets");
        }
    }

    private void requireFigure(int figure) {
        if (!stage.figures.has(figure)) {
            throw new IndexOutOfBoundsException("there is no such figure");
        }
    }

    private void requireStep(int figure, int step) {
        if (!stage.figures.hasStep(figure, step)) {
            throw new IndexOutOfBoundsException("there is no such figure or step");
        }
    }

    private void requireEntry(int entry) {
        if (entry < 0 || entry >= stage.entryCount) {
            throw new IndexOutOfBoundsException("there is no such entry");
        }
    }

    private static void requireForecast(int beats) {
        if (beats < 0 || beats > MAX_BEATS) {
            throw new IllegalArgumentException("a forecast is for 0 to 40 beats");
        }
    }

    /** The steps of all figures stand in one row, as one row is less to copy than five. */
    private static int slot(int figure, int step) {
        return figure * MAX_STEPS + step;
    }

    private void writeStep(int slot) {
        if (output.length() > 0) {
            output.append(' ');
        }
        output.append(stage.figures.delays[slot]).append(':');
        output.append(stage.figures.jets[slot]).append('=');
        output.append(stage.figures.openings[slot]);
    }

    /** Performs the commands on the trial stage, as a later one may still fail; answers how many went well. */
    private int performUntilProblem() {
        script.place = 0;
        for (int performed = 0; performed < script.commandCount; performed++) {
            script.readCommand();
            if (trial.problemOf(script.command, script.numbers) != Problem.NONE) {
                return performed;
            }
            trial.carryOut(script.command, script.numbers);
            script.skipSemicolon();
        }
        return script.commandCount;
    }

    /** Why a call is refused; one kind for each exception that a change can throw. */
    private enum Problem {
        NONE, INDEX, ARGUMENT, UNSUPPORTED, STATE
    }

    /** In a pattern N stands for a number, D for a digit, S for a sign, and each other character for itself. */
    private enum Command {
        JET("jet N"),
        OPEN("open D=N"),
        PUMP("pump N"),
        WIND("wind SD"),
        TRIM("trim"),
        FIGURE("figure"),
        STEP("step D+N:D=N"),
        PLAY("play D+N"),
        PASS("pass N");

        private final String pattern;

        Command(String pattern) {
            this.pattern = pattern;
        }
    }

    /** The jets with the pump and the wind, which together decide heights and landings. */
    private static final class Jets {
        private final int[] positions = new int[MAX_JETS];
        private final int[] openings = new int[MAX_JETS];
        private int count = 0;
        private int capacity = FIRST_CAPACITY;
        private int wind = 0;

        void copyFrom(Jets other) {
            System.arraycopy(other.positions, 0, positions, 0, MAX_JETS);
            System.arraycopy(other.openings, 0, openings, 0, MAX_JETS);
            count = other.count;
            capacity = other.capacity;
            wind = other.wind;
        }

        boolean has(int jet) {
            return jet >= 0 && jet < count;
        }

        Problem problemOfAdding(int position) {
            if (position < 0 || position > MAX_POSITION) {
                return Problem.ARGUMENT;
            }
            if (isTaken(position)) {
                return Problem.UNSUPPORTED;
            }
            return count < MAX_JETS ? Problem.NONE : Problem.STATE;
        }

        private boolean isTaken(int position) {
            for (int jet = 0; jet < count; jet++) {
                if (positions[jet] == position) {
                    return true;
                }
            }
            return false;
        }

        int append(int position) {
            positions[count] = position;
            openings[count] = 0;
            count++;
            return count - 1;
        }

        void drop(int jet) {
            count--;
            for (int later = jet; later < count; later++) {
                positions[later] = positions[later + 1];
                openings[later] = openings[later + 1];
            }
        }

        Problem problemOfOpening(int jet, int opening) {
            if (!has(jet)) {
                return Problem.INDEX;
            }
            return opening < 0 || opening > MAX_OPENING ? Problem.ARGUMENT : Problem.NONE;
        }

        int changeOpening(int jet, int opening) {
            int previous = openings[jet];
            openings[jet] = opening;
            return previous;
        }

        Problem problemOfCapacity(int amount) {
            return amount < 0 || amount > MAX_CAPACITY ? Problem.ARGUMENT : Problem.NONE;
        }

        int changeCapacity(int amount) {
            int previous = capacity;
            capacity = amount;
            return previous;
        }

        Problem problemOfWind(int strength) {
            return strength < -MAX_WIND || strength > MAX_WIND ? Problem.ARGUMENT : Problem.NONE;
        }

        int changeWind(int strength) {
            int previous = wind;
            wind = strength;
            return previous;
        }

        int sumOfOpenings() {
            int sum = 0;
            for (int jet = 0; jet < count; jet++) {
                sum += openings[jet];
            }
            return sum;
        }

        int supplyFor(int demand) {
            return Math.min(demand, capacity);
        }

        /** The demand is an argument here and below, so that it is not summed anew for each jet. */
        int heightOf(int jet, int demand) {
            int full = 10 * openings[jet];
            return demand > 0 && demand > capacity ? full * capacity / demand : full;
        }

        int landingOf(int jet, int demand) {
            return positions[jet] + heightOf(jet, demand) * wind / 20;
        }

        static boolean isOutside(int place) {
            return place < 0 || place > MAX_POSITION;
        }

        int countWild() {
            int demand = sumOfOpenings();
            int wild = 0;
            for (int jet = 0; jet < count; jet++) {
                if (isOutside(landingOf(jet, demand))) {
                    wild++;
                }
            }
            return wild;
        }

        private int findFirstWild() {
            int demand = sumOfOpenings();
            for (int jet = 0; jet < count; jet++) {
                if (isOutside(landingOf(jet, demand))) {
                    return jet;
                }
            }
            return NOTHING;
        }

        /** A closed jet lands where it stands and is not wild, so no more can be closed than all is open. */
        int closeWildJets() {
            for (int closed = 0; closed < MAX_JETS * MAX_OPENING; closed++) {
                int jet = findFirstWild();
                if (jet == NOTHING) {
                    return closed;
                }
                openings[jet]--;
            }
            return MAX_JETS * MAX_OPENING;
        }

        int findHighest() {
            int demand = sumOfOpenings();
            int highest = 0;
            for (int jet = 1; jet < count; jet++) {
                if (heightOf(jet, demand) > heightOf(highest, demand)) {
                    highest = jet;
                }
            }
            return highest;
        }

        int findByRank(int rank) {
            for (int jet = 0; jet < count; jet++) {
                if (rankOf(jet) == rank) {
                    return jet;
                }
            }
            return NOTHING;
        }

        private int rankOf(int jet) {
            int before = 0;
            for (int other = 0; other < count; other++) {
                if (positions[other] < positions[jet]) {
                    before++;
                }
            }
            return before;
        }

        int findNearestLanding(int place) {
            int demand = sumOfOpenings();
            int nearest = 0;
            for (int jet = 1; jet < count; jet++) {
                if (distance(jet, demand, place) < distance(nearest, demand, place)) {
                    nearest = jet;
                }
            }
            return nearest;
        }

        /** A long, as a place may be as far as an int goes. */
        private long distance(int jet, int demand, int place) {
            return Math.abs((long) landingOf(jet, demand) - (long) place);
        }

        int countCrossingPairs() {
            int demand = sumOfOpenings();
            int pairs = 0;
            for (int jet = 0; jet < count; jet++) {
                for (int other = 0; other < count; other++) {
                    if (positions[jet] < positions[other] && landingOf(jet, demand) > landingOf(other, demand)) {
                        pairs++;
                    }
                }
            }
            return pairs;
        }
    }

    /** Sorts landings by merging; its two rows are made once to save room. */
    private static final class LandingSorter {
        private final int[] landings = new int[MAX_JETS];
        private final int[] merged = new int[MAX_JETS];

        int countInversions(Jets jets) {
            takeLandings(jets);
            int end = jets.count;
            int inversions = 0;
            for (int width = 1; width < end; width *= 2) {
                for (int start = 0; start < end; start += 2 * width) {
                    inversions += merge(start, Math.min(start + width, end), Math.min(start + 2 * width, end));
                }
            }
            return inversions;
        }

        private void takeLandings(Jets jets) {
            int demand = jets.sumOfOpenings();
            for (int jet = 0; jet < jets.count; jet++) {
                landings[jets.rankOf(jet)] = jets.landingOf(jet, demand);
            }
        }

        /** Equal landings are taken from the left part first, as they do not cross. */
        private int merge(int start, int middle, int end) {
            int inversions = 0;
            int left = start;
            int right = middle;
            for (int place = start; place < end; place++) {
                if (right >= end || left < middle && landings[left] <= landings[right]) {
                    merged[place] = landings[left];
                    left++;
                } else {
                    merged[place] = landings[right];
                    right++;
                    inversions += middle - left;
                }
            }
            System.arraycopy(merged, start, landings, start, end - start);
            return inversions;
        }
    }

    /** The figures with their steps. */
    private static final class Figures {
        private final int[] stepCounts = new int[MAX_FIGURES];
        private final int[] delays = new int[MAX_FIGURES * MAX_STEPS];
        private final int[] jets = new int[MAX_FIGURES * MAX_STEPS];
        private final int[] openings = new int[MAX_FIGURES * MAX_STEPS];
        private int count = 0;

        void copyFrom(Figures other) {
            System.arraycopy(other.stepCounts, 0, stepCounts, 0, MAX_FIGURES);
            System.arraycopy(other.delays, 0, delays, 0, MAX_FIGURES * MAX_STEPS);
            System.arraycopy(other.jets, 0, jets, 0, MAX_FIGURES * MAX_STEPS);
            System.arraycopy(other.openings, 0, openings, 0, MAX_FIGURES * MAX_STEPS);
            count = other.count;
        }

        boolean has(int figure) {
            return figure >= 0 && figure < count;
        }

        boolean hasStep(int figure, int step) {
            return has(figure) && step >= 0 && step < stepCounts[figure];
        }

        Problem problemOfAdding() {
            return count < MAX_FIGURES ? Problem.NONE : Problem.STATE;
        }

        int append() {
            stepCounts[count] = 0;
            count++;
            return count - 1;
        }

        int drop(int figure) {
            int steps = stepCounts[figure];
            count--;
            for (int later = figure; later < count; later++) {
                stepCounts[later] = stepCounts[later + 1];
            }
            for (int slot = slot(figure, 0); slot < slot(count, 0); slot++) {
                moveStep(slot + MAX_STEPS, slot);
            }
            return steps;
        }

        private void moveStep(int from, int to) {
            delays[to] = delays[from];
            jets[to] = jets[from];
            openings[to] = openings[from];
        }

        int appendStep(int figure, int delay, int jet, int opening) {
            int slot = slot(figure, stepCounts[figure]);
            delays[slot] = delay;
            jets[slot] = jet;
            openings[slot] = opening;
            stepCounts[figure]++;
            return stepCounts[figure];
        }

        int dropStep(int figure, int step) {
            stepCounts[figure]--;
            for (int later = step; later < stepCounts[figure]; later++) {
                moveStep(slot(figure, later + 1), slot(figure, later));
            }
            return stepCounts[figure];
        }

        int lengthOf(int figure) {
            int length = 0;
            for (int step = 0; step < stepCounts[figure]; step++) {
                int delay = delays[figure * MAX_STEPS + step];
                length = delay > length ? delay : length;
            }
            return length;
        }

        int countUsing(int jet) {
            int using = 0;
            for (int figure = 0; figure < count; figure++) {
                if (uses(figure, jet)) {
                    using++;
                }
            }
            return using;
        }

        private boolean uses(int figure, int jet) {
            for (int step = 0; step < stepCounts[figure]; step++) {
                if (jets[slot(figure, step)] == jet) {
                    return true;
                }
            }
            return false;
        }

        /** Follows the removal of a jet; answers how many steps went with it. */
        int forgetJet(int jet) {
            int forgotten = 0;
            for (int figure = 0; figure < count; figure++) {
                forgotten += forgetJetIn(figure, jet);
            }
            return forgotten;
        }

        private int forgetJetIn(int figure, int jet) {
            int steps = stepCounts[figure];
            int kept = 0;
            for (int step = 0; step < steps; step++) {
                int from = slot(figure, step);
                if (jets[from] != jet) {
                    int to = slot(figure, kept);
                    moveStep(from, to);
                    jets[to] = jets[to] > jet ? jets[to] - 1 : jets[to];
                    kept++;
                }
            }
            stepCounts[figure] = kept;
            return steps - kept;
        }
    }

    /** Everything that changes can change: what undo brings back and save keeps. */
    private static final class Stage {
        private final Jets jets = new Jets();
        private final Figures figures = new Figures();
        private final int[] entryFigures = new int[MAX_ENTRIES];
        private final int[] entryStarts = new int[MAX_ENTRIES];
        private int entryCount = 0;
        private int beat = 0;
        private long pumped = 0;
        private long shortage = 0;

        void copyFrom(Stage other) {
            jets.copyFrom(other.jets);
            figures.copyFrom(other.figures);
            System.arraycopy(other.entryFigures, 0, entryFigures, 0, MAX_ENTRIES);
            System.arraycopy(other.entryStarts, 0, entryStarts, 0, MAX_ENTRIES);
            entryCount = other.entryCount;
            beat = other.beat;
            pumped = other.pumped;
            shortage = other.shortage;
        }

        int dropJet(int jet) {
            jets.drop(jet);
            return figures.forgetJet(jet);
        }

        Problem problemOfDroppingFigure(int figure) {
            if (!figures.has(figure)) {
                return Problem.INDEX;
            }
            for (int entry = 0; entry < entryCount; entry++) {
                if (entryFigures[entry] == figure) {
                    return Problem.STATE;
                }
            }
            return Problem.NONE;
        }

        /** The entries of later figures go on with the same figures, under their new indices. */
        int dropFigure(int figure) {
            for (int entry = 0; entry < entryCount; entry++) {
                if (entryFigures[entry] > figure) {
                    entryFigures[entry]--;
                }
            }
            return figures.drop(figure);
        }

        Problem problemOfStep(int figure, int delay, int jet, int opening) {
            if (!figures.has(figure) || !jets.has(jet)) {
                return Problem.INDEX;
            }
            if (delay < 0 || delay > MAX_DELAY || opening < 0 || opening > MAX_OPENING) {
                return Problem.ARGUMENT;
            }
            return figures.stepCounts[figure] < MAX_STEPS ? Problem.NONE : Problem.STATE;
        }

        Problem problemOfPlaying(int figure, int wait) {
            if (!figures.has(figure)) {
                return Problem.INDEX;
            }
            if (wait < 1 || wait > MAX_WAIT) {
                return Problem.ARGUMENT;
            }
            return entryCount < MAX_ENTRIES ? Problem.NONE : Problem.STATE;
        }

        int appendEntry(int figure, int wait) {
            int start = beat + wait;
            entryFigures[entryCount] = figure;
            entryStarts[entryCount] = start;
            entryCount++;
            return start;
        }

        int dropEntry(int entry) {
            int start = entryStarts[entry];
            entryCount--;
            for (int later = entry; later < entryCount; later++) {
                moveEntry(later + 1, later);
            }
            return start;
        }

        private void moveEntry(int from, int to) {
            entryFigures[to] = entryFigures[from];
            entryStarts[to] = entryStarts[from];
        }

        Problem problemOfPassing(int beats) {
            return beats < 1 || beats > MAX_BEATS ? Problem.ARGUMENT : Problem.NONE;
        }

        int passBeats(int beats) {
            int finished = 0;
            for (int passed = 0; passed < beats; passed++) {
                finished += passOneBeat();
            }
            return finished;
        }

        int passOneBeat() {
            beat++;
            for (int entry = 0; entry < entryCount; entry++) {
                happenDueSteps(entry);
            }
            int finished = dropFinishedEntries();
            int demand = jets.sumOfOpenings();
            int supply = jets.supplyFor(demand);
            pumped += supply;
            shortage += demand - supply;
            return finished;
        }

        private void happenDueSteps(int entry) {
            int figure = entryFigures[entry];
            for (int step = 0; step < figures.stepCounts[figure]; step++) {
                int slot = slot(figure, step);
                if (entryStarts[entry] + figures.delays[slot] == beat) {
                    jets.openings[figures.jets[slot]] = figures.openings[slot];
                }
            }
        }

        private int dropFinishedEntries() {
            int entries = entryCount;
            int kept = 0;
            for (int entry = 0; entry < entries; entry++) {
                if (entryStarts[entry] + figures.lengthOf(entryFigures[entry]) > beat) {
                    moveEntry(entry, kept);
                    kept++;
                }
            }
            entryCount = kept;
            return entries - kept;
        }

        /** An entry whose last beat is over, as steps were removed, still leaves only when a beat passes. */
        int beatsToEmptyQueue() {
            if (entryCount == 0) {
                return 0;
            }
            int beats = 1;
            for (int entry = 0; entry < entryCount; entry++) {
                int lastBeat = entryStarts[entry] + figures.lengthOf(entryFigures[entry]);
                beats = Math.max(beats, lastBeat - beat);
            }
            return beats;
        }

        int demandFromLastSteps(int beats) {
            int sum = 0;
            for (int jet = 0; jet < jets.count; jet++) {
                sum += openingFromLastStep(jet, beat + beats);
            }
            return sum;
        }

        /** Of steps in the same beat the later one in the order of entries and steps wins, hence not "less". */
        private int openingFromLastStep(int jet, int lastBeat) {
            int latest = beat + 1;
            int opening = jets.openings[jet];
            for (int entry = 0; entry < entryCount; entry++) {
                int figure = entryFigures[entry];
                for (int step = 0; step < figures.stepCounts[figure]; step++) {
                    int slot = slot(figure, step);
                    int due = entryStarts[entry] + figures.delays[slot];
                    if (figures.jets[slot] == jet && due >= latest && due <= lastBeat) {
                        latest = due;
                        opening = figures.openings[slot];
                    }
                }
            }
            return opening;
        }

        Problem problemOf(Command command, int[] numbers) {
            switch (command) {
                case JET:
                    return jets.problemOfAdding(numbers[0]);
                case OPEN:
                    return jets.problemOfOpening(numbers[0], numbers[1]);
                case PUMP:
                    return jets.problemOfCapacity(numbers[0]);
                case WIND:
                    return jets.problemOfWind(numbers[0] * numbers[1]);
                case FIGURE:
                    return figures.problemOfAdding();
                case STEP:
                    return problemOfStep(numbers[0], numbers[1], numbers[2], numbers[3]);
                case PLAY:
                    return problemOfPlaying(numbers[0], numbers[1]);
                case PASS:
                    return problemOfPassing(numbers[0]);
                default:
                    return Problem.NONE;
            }
        }

        void carryOut(Command command, int[] numbers) {
            switch (command) {
                case JET:
                    jets.append(numbers[0]);
                    break;
                case OPEN:
                    jets.changeOpening(numbers[0], numbers[1]);
                    break;
                case PUMP:
                    jets.changeCapacity(numbers[0]);
                    break;
                case WIND:
                    jets.changeWind(numbers[0] * numbers[1]);
                    break;
                case TRIM:
                    jets.closeWildJets();
                    break;
                case FIGURE:
                    figures.append();
                    break;
                case STEP:
                    figures.appendStep(numbers[0], numbers[1], numbers[2], numbers[3]);
                    break;
                case PLAY:
                    appendEntry(numbers[0], numbers[1]);
                    break;
                case PASS:
                    passBeats(numbers[0]);
                    break;
                default:
                    break;
            }
        }
    }

    /** The input buffer and the reading of its commands. */
    private static final class Script {
        private final char[] text = new char[MAX_INPUT];
        private int length = 0;
        private int place = 0;
        private int commandCount = 0;
        private Command command = Command.TRIM;
        private final int[] numbers = new int[MAX_NUMBERS];
        private int numberCount = 0;

        boolean isFull() {
            return length >= MAX_INPUT;
        }

        int append(char character) {
            text[length] = character;
            length++;
            return length;
        }

        /** Reads the whole text and counts its commands; answers the error position, or NOTHING. */
        int findError() {
            place = 0;
            for (commandCount = 1; commandCount <= MAX_INPUT && readCommand(); commandCount++) {
                if (place == length) {
                    return NOTHING;
                }
                if (!skipSemicolon()) {
                    return place;
                }
            }
            return place;
        }

        boolean skipSemicolon() {
            return takeCharacter(';');
        }

        /** Patterns differ in their letters, so the one that fits furthest tells where the text goes wrong. */
        boolean readCommand() {
            int start = place;
            int furthest = place;
            for (int candidate = 0; candidate < COMMANDS.length; candidate++) {
                place = start;
                if (fits(COMMANDS[candidate].pattern)) {
                    command = COMMANDS[candidate];
                    return true;
                }
                furthest = Math.max(furthest, place);
            }
            place = furthest;
            return false;
        }

        private boolean fits(String pattern) {
            numberCount = 0;
            for (int part = 0; part < pattern.length(); part++) {
                if (!takePart(pattern.charAt(part))) {
                    return false;
                }
            }
            return true;
        }

        private boolean takePart(char part) {
            if (part == 'N') {
                return takeNumber(3);
            }
            if (part == 'D') {
                return takeNumber(1);
            }
            return part == 'S' ? takeSign() : takeCharacter(part);
        }

        private boolean takeNumber(int mostDigits) {
            int digits = 0;
            int number = 0;
            while (digits < mostDigits && standsAtDigit()) {
                number = 10 * number + (text[place] - '0');
                place++;
                digits++;
            }
            if (digits == 0) {
                return false;
            }
            keepNumber(number);
            return true;
        }

        private boolean standsAtDigit() {
            return place < length && text[place] >= '0' && text[place] <= '9';
        }

        private boolean takeSign() {
            if (takeCharacter('+')) {
                keepNumber(1);
                return true;
            }
            if (takeCharacter('-')) {
                keepNumber(-1);
                return true;
            }
            return false;
        }

        private boolean takeCharacter(char character) {
            if (place >= length || text[place] != character) {
                return false;
            }
            place++;
            return true;
        }

        private void keepNumber(int number) {
            if (numberCount < MAX_NUMBERS) {
                numbers[numberCount] = number;
                numberCount++;
            }
        }
    }
}
