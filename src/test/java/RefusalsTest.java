import java.util.LinkedHashMap;
import java.util.Map;
import java.util.NoSuchElementException;
import java.util.function.Supplier;
import java.util.function.ToIntFunction;

/**
 * A test for each line "Throws" of the document: the first values that are refused, on each side, the ends of int,
 * the last values that are not, and that a refused call leaves everything as it was.
 */
public final class RefusalsTest {
    private static final Class<?> INDEX = IndexOutOfBoundsException.class;
    private static final Class<?> ARGUMENT = IllegalArgumentException.class;
    private static final Class<?> STATE = IllegalStateException.class;
    private static final Class<?> UNSUPPORTED = UnsupportedOperationException.class;
    private static final Class<?> MISSING = NoSuchElementException.class;
    private static final Class<?> ARITHMETIC = ArithmeticException.class;

    private static final String NO_JET = "Throws IndexOutOfBoundsException if there is no such jet";
    private static final String NO_FIGURE = "Throws IndexOutOfBoundsException if there is no such figure";
    private static final String NO_STEP = "Throws IndexOutOfBoundsException if there is no such figure or step";
    private static final String NO_ENTRY = "Throws IndexOutOfBoundsException if there is no such entry";
    private static final String NO_JETS = "Throws NoSuchElementException if there are no jets";
    private static final String NOT_TO_FORTY = "Throws IllegalArgumentException if beats is not from 0 to 40";

    /** Besides the ends of int, numbers that times a row's length of 8 or times 10 wrap round to a small one. */
    private static final int[] FAR = {Integer.MIN_VALUE, Integer.MIN_VALUE + 1, -(1 << 29), -100, -2,
        100, 255, 256, 1 << 29, 429496730, Integer.MAX_VALUE - 1, Integer.MAX_VALUE};

    /** A call that takes one number, which is the one in question. */
    private interface Numbered {
        Object on(FountainShow show, int number);
    }

    private interface TwiceNumbered {
        Object on(FountainShow show, int first, int second);
    }

    private RefusalsTest() {
    }

    public static void main(String[] args) {
        jets();
        pumpAndWind();
        figures();
        steps();
        queue();
        forecasts();
        statisticsAndOutput();
        commands();
        undoAndSaved();
        Checks.finish("refusals", new Document(args).refusals());
    }

    // How a kind of condition is tested.

    /** Indices from 0 to one less than a number of things; nothing else, whether there are many, some or none. */
    private static void noSuch(Class<?> exception, ToIntFunction<FountainShow> counting, Numbered call) {
        for (Supplier<FountainShow> made : Shows.ALL) {
            noneBut(counting.applyAsInt(made.get()), exception, made, call);
        }
    }

    private static void noneBut(int count, Class<?> exception, Supplier<FountainShow> made, Numbered call) {
        refusedFor(exception, made, call, -1);
        for (int beyond = count; beyond <= count + 10; beyond++) {
            refusedFor(exception, made, call, beyond);
        }
        for (int far : FAR) {
            refusedFor(exception, made, call, far);
        }
        if (count > 0) {
            Checks.allowed(made, show -> call.on(show, 0));
            Checks.allowed(made, show -> call.on(show, count - 1));
        }
    }

    private static void notFrom(int least, int most, Supplier<FountainShow> made, Numbered call) {
        refusedFor(ARGUMENT, made, call, least - 1);
        refusedFor(ARGUMENT, made, call, most + 1);
        for (int far : FAR) {
            if (far < least || far > most) {
                refusedFor(ARGUMENT, made, call, far);
            }
        }
        Checks.allowed(made, show -> call.on(show, least));
        Checks.allowed(made, show -> call.on(show, most));
    }

    private static void notFromAnywhere(int least, int most, Numbered call) {
        for (Supplier<FountainShow> made : Shows.ALL) {
            notFrom(least, most, made, call);
        }
    }

    private static void refusedFor(Class<?> exception, Supplier<FountainShow> made, Numbered call, int number) {
        Checks.refused(exception, made, show -> call.on(show, number));
    }

    private static void noSuchJet(Numbered call) {
        noSuch(INDEX, FountainShow::jetCount, call);
    }

    private static void noSuchFigure(Numbered call) {
        noSuch(INDEX, FountainShow::figureCount, call);
    }

    private static void noSuchEntry(Numbered call) {
        noSuch(INDEX, FountainShow::queueLength, call);
    }

    /** The figure may be wrong, or the step, or both; each figure has its own number of steps. */
    private static void noSuchStep(TwiceNumbered call) {
        for (Supplier<FountainShow> made : Shows.ALL) {
            int figures = made.get().figureCount();
            for (int wrong : new int[] {-1, figures, figures + 1, 5, 1 << 29, Integer.MIN_VALUE, Integer.MAX_VALUE}) {
                Checks.refused(INDEX, made, show -> call.on(show, wrong, 0));
                Checks.refused(INDEX, made, show -> call.on(show, wrong, 8));
                Checks.refused(INDEX, made, show -> call.on(show, wrong, -1));
            }
            for (int figure = 0; figure < figures; figure++) {
                noSuchStepOf(made, figure, call);
            }
        }
    }

    private static void noSuchStepOf(Supplier<FountainShow> made, int figure, TwiceNumbered call) {
        int steps = made.get().stepCount(figure);
        for (int wrong : new int[] {-1, -8, steps, steps + 1, 8, 1 << 29, Integer.MIN_VALUE, Integer.MAX_VALUE}) {
            Checks.refused(INDEX, made, show -> call.on(show, figure, wrong));
        }
        if (steps > 0) {
            Checks.allowed(made, show -> call.on(show, figure, 0));
            Checks.allowed(made, show -> call.on(show, figure, steps - 1));
        }
    }

    // Jets.

    private static void jets() {
        Checks.promise(2, "Throws IllegalArgumentException if position is not from 0 to 99", RefusalsTest::positionOutside);
        Checks.promise(2, "Throws UnsupportedOperationException if another jet has this position", RefusalsTest::positionTaken);
        Checks.promise(2, "Throws IllegalStateException if there are 10 jets", RefusalsTest::tenJets);
        Checks.promise(3, NO_JET, () -> noSuchJet(FountainShow::removeJet));
        Checks.promise(4, NO_JET, () -> noSuchJet((show, jet) -> show.setOpening(jet, 10)));
        Checks.promise(4, "Throws IllegalArgumentException if opening is not from 0 to 10", RefusalsTest::openingOutside);
        Checks.promise(6, NO_JET, () -> noSuchJet(FountainShow::position));
        Checks.promise(7, NO_JET, () -> noSuchJet(FountainShow::opening));
        Checks.promise(8, NO_JET, () -> noSuchJet(FountainShow::height));
        Checks.promise(9, NO_JET, () -> noSuchJet(FountainShow::landing));
        Checks.promise(10, NO_JET, () -> noSuchJet(FountainShow::isWild));
        Checks.promise(12, NO_JETS, () -> noJets(FountainShow::highestJet));
        Checks.promise(13, "Throws NoSuchElementException if there is no such place",
                () -> noSuch(MISSING, FountainShow::jetCount, FountainShow::jetByPosition));
        Checks.promise(14, NO_JETS, RefusalsTest::noJetsToBeNearest);
    }

    private static void positionOutside() {
        notFrom(0, 99, FountainShow::new, FountainShow::addJet);
        notFrom(0, 99, Shows::usual, FountainShow::addJet);
        for (int wrong : new int[] {-1, 100, Integer.MIN_VALUE, Integer.MAX_VALUE}) {
            refusedFor(ARGUMENT, Shows::full, FountainShow::addJet, wrong);
        }
    }

    private static void positionTaken() {
        for (int taken : new int[] {40, 7, 93}) {
            refusedFor(UNSUPPORTED, Shows::usual, FountainShow::addJet, taken);
            Checks.allowed(Shows::usual, show -> show.addJet(taken - 1));
            Checks.allowed(Shows::usual, show -> show.addJet(taken + 1));
        }
        refusedFor(UNSUPPORTED, () -> Shows.jets(0, 99), FountainShow::addJet, 0);
        refusedFor(UNSUPPORTED, () -> Shows.jets(0, 99), FountainShow::addJet, 99);
        Checks.refused(UNSUPPORTED, Shows::full, show -> show.addJet(45));
        // The position of a jet that was removed is free, also if it is the rows' last.
        Checks.allowed(Checks.after(() -> Shows.jets(5, 6), show -> show.removeJet(0)), show -> show.addJet(5));
        Checks.allowed(Checks.after(() -> Shows.jets(5, 6), show -> show.removeJet(1)), show -> show.addJet(6));
        Checks.allowed(Checks.after(() -> Shows.jets(5), FountainShow::undo), show -> show.addJet(5));
        // A row's untouched places hold a 0, which is no jet's position.
        Checks.allowed(() -> Shows.jets(5), show -> show.addJet(0));
    }

    private static void tenJets() {
        Checks.refused(STATE, Shows::full, show -> show.addJet(0));
        Checks.refused(STATE, Shows::full, show -> show.addJet(99));
        Checks.allowed(() -> Shows.jets(0, 1, 2, 3, 4, 5, 6, 7, 8), show -> show.addJet(9));
        Checks.allowed(Checks.after(Shows::full, show -> show.removeJet(0)), show -> show.addJet(0));
    }

    private static void openingOutside() {
        notFrom(0, 10, Shows::usual, (show, opening) -> show.setOpening(0, opening));
        notFrom(0, 10, Shows::usual, (show, opening) -> show.setOpening(2, opening));
        notFrom(0, 10, Shows::full, (show, opening) -> show.setOpening(9, opening));
    }

    private static void noJets(Checks.Call call) {
        Checks.refused(MISSING, FountainShow::new, call);
        Checks.refused(MISSING, () -> Shows.figures(5), call);
        Checks.refused(MISSING, Checks.after(() -> Shows.jets(5), show -> show.removeJet(0)), call);
        Checks.allowed(() -> Shows.jets(0), call);
        Checks.allowed(Shows::full, call);
    }

    private static void noJetsToBeNearest() {
        for (int place : new int[] {0, 99, -1, 100, Integer.MIN_VALUE, Integer.MAX_VALUE}) {
            noJets(show -> show.nearestLanding(place));
        }
    }

    // Pump and wind.

    private static void pumpAndWind() {
        Checks.promise(17, "Throws IllegalArgumentException if capacity is not from 0 to 100",
                () -> notFromAnywhere(0, 100, FountainShow::setCapacity));
        Checks.promise(18, "Throws IllegalArgumentException if wind is not from -9 to 9",
                () -> notFromAnywhere(-9, 9, FountainShow::setWind));
    }

    // Figures.

    private static void figures() {
        Checks.promise(26, "Throws IllegalStateException if there are 5 figures", RefusalsTest::fiveFigures);
        Checks.promise(27, NO_FIGURE, RefusalsTest::noFigureToRemove);
        Checks.promise(27, "Throws IllegalStateException if an entry of the queue has this figure", RefusalsTest::figureIsPlayed);
        Checks.promise(31, NO_FIGURE, () -> noSuchFigure(FountainShow::stepCount));
        Checks.promise(35, NO_FIGURE, () -> noSuchFigure(FountainShow::figureLength));
        Checks.promise(36, NO_JET, () -> noSuchJet(FountainShow::figuresUsing));
    }

    private static void fiveFigures() {
        Checks.refused(STATE, Shows::full, FountainShow::addFigure);
        Checks.refused(STATE, () -> Shows.figures(5), FountainShow::addFigure);
        Checks.allowed(() -> Shows.figures(4), FountainShow::addFigure);
        Checks.allowed(Checks.after(Shows::full, show -> show.removeFigure(4)), FountainShow::addFigure);
    }

    /** Here only figures that no entry has can be removed, so the last that is allowed is told by itself. */
    private static void noFigureToRemove() {
        for (Supplier<FountainShow> made : Shows.ALL) {
            int count = made.get().figureCount();
            for (int wrong : new int[] {-1, count, count + 1, 5, 6, 1 << 29, Integer.MIN_VALUE, Integer.MAX_VALUE}) {
                refusedFor(INDEX, made, FountainShow::removeFigure, wrong);
            }
        }
        Checks.allowed(Shows::usual, show -> show.removeFigure(2));
        Checks.allowed(Shows::full, show -> show.removeFigure(4));
        Checks.allowed(() -> Shows.figures(1), show -> show.removeFigure(0));
    }

    private static void figureIsPlayed() {
        refusedFor(STATE, Shows::usual, FountainShow::removeFigure, 0);
        refusedFor(STATE, Shows::usual, FountainShow::removeFigure, 1);
        for (int played = 0; played < 3; played++) {
            refusedFor(STATE, Shows::full, FountainShow::removeFigure, played);
        }
        Checks.allowed(Shows::full, show -> show.removeFigure(3));
        Supplier<FountainShow> lastOnly = Checks.after(() -> Shows.figures(5), show -> show.play(4, 1));
        refusedFor(STATE, lastOnly, FountainShow::removeFigure, 4);
        Checks.allowed(lastOnly, show -> show.removeFigure(0));
        // Of several entries with the figure the last one that is left still holds it.
        Supplier<FountainShow> twice = Checks.after(lastOnly, show -> show.play(4, 2));
        refusedFor(STATE, Checks.after(twice, show -> show.cancel(0)), FountainShow::removeFigure, 4);
        refusedFor(STATE, Checks.after(twice, show -> show.pass(1)), FountainShow::removeFigure, 4);
        Checks.allowed(Checks.after(twice, show -> show.pass(2)), show -> show.removeFigure(4));
        Checks.allowed(Checks.after(lastOnly, show -> show.cancel(0)), show -> show.removeFigure(4));
    }

    // Steps.

    private static void steps() {
        Checks.promise(28, "Throws IndexOutOfBoundsException if there is no such figure or jet", RefusalsTest::noFigureOrJetForStep);
        Checks.promise(28, "Throws IllegalArgumentException if delay is not from 0 to 20 or opening is not from 0 to 10",
                RefusalsTest::delayOrOpeningOutside);
        Checks.promise(28, "Throws IllegalStateException if the figure has 8 steps", RefusalsTest::eightSteps);
        Checks.promise(29, NO_STEP, () -> noSuchStep(FountainShow::removeStep));
        Checks.promise(32, NO_STEP, () -> noSuchStep(FountainShow::stepDelay));
        Checks.promise(33, NO_STEP, () -> noSuchStep(FountainShow::stepJet));
        Checks.promise(34, NO_STEP, () -> noSuchStep(FountainShow::stepOpening));
    }

    private static void noFigureOrJetForStep() {
        for (int wrong : new int[] {-1, 3, 4, 5, 8, 10, 1 << 29, Integer.MIN_VALUE, Integer.MAX_VALUE}) {
            Checks.refused(INDEX, Shows::usual, show -> show.addStep(wrong, 1, 2, 3));
            Checks.refused(INDEX, Shows::usual, show -> show.addStep(2, 1, wrong, 3));
            Checks.refused(INDEX, Shows::usual, show -> show.addStep(wrong, 1, wrong, 3));
        }
        for (int wrong : new int[] {-1, 10, 1 << 29, Integer.MIN_VALUE, Integer.MAX_VALUE}) {
            Checks.refused(INDEX, Shows::full, show -> show.addStep(wrong, 1, 9, 3));
            Checks.refused(INDEX, Shows::full, show -> show.addStep(4, 1, wrong, 3));
        }
        Checks.refused(INDEX, Shows::full, show -> show.addStep(5, 1, 9, 3));
        Checks.refused(INDEX, () -> Shows.figures(1), show -> show.addStep(0, 0, 0, 0));
        Checks.refused(INDEX, () -> Shows.jets(0), show -> show.addStep(0, 0, 0, 0));
        Checks.refused(INDEX, FountainShow::new, show -> show.addStep(0, 0, 0, 0));
        Checks.allowed(Shows::usual, show -> show.addStep(0, 1, 0, 3));
        Checks.allowed(Shows::usual, show -> show.addStep(2, 1, 2, 3));
    }

    private static void delayOrOpeningOutside() {
        notFrom(0, 20, Shows::usual, (show, delay) -> show.addStep(2, delay, 2, 10));
        notFrom(0, 10, Shows::usual, (show, opening) -> show.addStep(2, 20, 2, opening));
        notFrom(0, 20, Shows::usual, (show, delay) -> show.addStep(0, delay, 0, 0));
        notFrom(0, 10, Shows::usual, (show, opening) -> show.addStep(0, 0, 0, opening));
        Checks.refused(ARGUMENT, Shows::usual, show -> show.addStep(0, 21, 0, 11));
        Checks.refused(ARGUMENT, Shows::usual, show -> show.addStep(0, -1, 0, -1));
    }

    private static void eightSteps() {
        for (int figure = 0; figure < 5; figure++) {
            int full = figure;
            Checks.refused(STATE, Shows::full, show -> show.addStep(full, 0, 0, 0));
            Checks.refused(STATE, Shows::full, show -> show.addStep(full, 20, 9, 10));
            Checks.allowed(Checks.after(Shows::full, show -> show.removeStep(full, 0)), show -> show.addStep(full, 1, 1, 1));
        }
        Supplier<FountainShow> seven = Checks.after(Shows::full, show -> show.removeStep(0, 7));
        Checks.refused(STATE, Checks.after(seven, show -> show.addStep(0, 1, 1, 1)), show -> show.addStep(0, 1, 1, 1));
        // Each figure has steps of its own: eight in one leave room in the next.
        Supplier<FountainShow> anew = Checks.after(Shows::full, show -> show.removeFigure(4));
        Checks.allowed(Checks.after(anew, FountainShow::addFigure), show -> show.addStep(4, 1, 1, 1));
    }

    // Queue and beats.

    private static void queue() {
        Checks.promise(37, NO_FIGURE, RefusalsTest::noFigureToPlay);
        Checks.promise(37, "Throws IllegalArgumentException if wait is not from 1 to 30", RefusalsTest::waitOutside);
        Checks.promise(37, "Throws IllegalStateException if the queue holds 6 entries", RefusalsTest::sixEntries);
        Checks.promise(38, NO_ENTRY, () -> noSuchEntry(FountainShow::cancel));
        Checks.promise(39, "Throws IllegalArgumentException if beats is not from 1 to 40",
                () -> notFromAnywhere(1, 40, FountainShow::pass));
        Checks.promise(42, NO_ENTRY, () -> noSuchEntry(FountainShow::entryFigure));
        Checks.promise(43, NO_ENTRY, () -> noSuchEntry(FountainShow::entryStart));
    }

    private static void noFigureToPlay() {
        for (Supplier<FountainShow> made : Shows.ALL) {
            int count = made.get().figureCount();
            for (int wrong : new int[] {-1, count, count + 1, 5, 6, 1 << 29, Integer.MIN_VALUE, Integer.MAX_VALUE}) {
                Checks.refused(INDEX, made, show -> show.play(wrong, 1));
            }
        }
        Checks.allowed(Shows::usual, show -> show.play(0, 1));
        Checks.allowed(Shows::usual, show -> show.play(2, 1));
        Checks.allowed(() -> Shows.figures(5), show -> show.play(4, 1));
    }

    private static void waitOutside() {
        notFrom(1, 30, Shows::usual, (show, wait) -> show.play(0, wait));
        notFrom(1, 30, Shows::usual, (show, wait) -> show.play(2, wait));
        notFrom(1, 30, () -> Shows.figures(1), (show, wait) -> show.play(0, wait));
    }

    private static void sixEntries() {
        Checks.refused(STATE, Shows::full, show -> show.play(0, 1));
        Checks.refused(STATE, Shows::full, show -> show.play(4, 30));
        Checks.allowed(Checks.after(Shows::full, show -> show.cancel(5)), show -> show.play(4, 30));
        Supplier<FountainShow> five = () -> {
            FountainShow show = Shows.figures(1);
            for (int entry = 0; entry < 5; entry++) {
                show.play(0, 30);
            }
            return show;
        };
        Checks.allowed(five, show -> show.play(0, 1));
        Supplier<FountainShow> six = Checks.after(five, show -> show.play(0, 1));
        Checks.refused(STATE, six, show -> show.play(0, 1));
        Checks.allowed(Checks.after(six, show -> show.pass(1)), show -> show.play(0, 1));
    }

    // Forecasts.

    private static void forecasts() {
        Checks.promise(45, NOT_TO_FORTY, () -> notFromAnywhere(0, 40, FountainShow::demandAfter));
        Checks.promise(46, NOT_TO_FORTY, () -> notFromAnywhere(0, 40, FountainShow::demandAfterBySteps));
        Checks.promise(47, NOT_TO_FORTY, RefusalsTest::overloadOutside);
        Checks.promise(47, "Throws NoSuchElementException if there is no such beat among them", RefusalsTest::noOverload);
    }

    /** No overload can be among 0 beats, so the last that is allowed is told by the other exception. */
    private static void overloadOutside() {
        for (Supplier<FountainShow> made : Shows.ALL) {
            for (int wrong : new int[] {-1, 41, 42, 1 << 29, Integer.MIN_VALUE, Integer.MAX_VALUE}) {
                refusedFor(ARGUMENT, made, FountainShow::firstOverload, wrong);
            }
            refusedFor(MISSING, made, FountainShow::firstOverload, 0);
        }
        Checks.allowed(overloadAfter(30, 10), show -> show.firstOverload(40));
    }

    private static Supplier<FountainShow> overloadAfter(int wait, int delay) {
        return () -> {
            FountainShow show = Shows.jets(50);
            show.setCapacity(9);
            show.addFigure();
            show.addStep(0, delay, 0, 10);
            show.play(0, wait);
            return show;
        };
    }

    private static void noOverload() {
        refusedFor(MISSING, FountainShow::new, FountainShow::firstOverload, 40);
        refusedFor(MISSING, overloadAfter(30, 10), FountainShow::firstOverload, 39);
        refusedFor(MISSING, overloadAfter(30, 11), FountainShow::firstOverload, 40);
        Checks.allowed(overloadAfter(30, 10), show -> show.firstOverload(40));
        refusedFor(MISSING, overloadAfter(1, 0), FountainShow::firstOverload, 0);
        Checks.allowed(overloadAfter(1, 0), show -> show.firstOverload(1));
        // A demand as great as the capacity is none; nor is one of now, as only coming beats count.
        Supplier<FountainShow> even = Checks.after(overloadAfter(1, 0), show -> show.setCapacity(10));
        refusedFor(MISSING, even, FountainShow::firstOverload, 40);
        Supplier<FountainShow> now = () -> {
            FountainShow show = Shows.openJets(50);
            show.setCapacity(9);
            show.addFigure();
            show.addStep(0, 0, 0, 9);
            show.play(0, 1);
            return show;
        };
        refusedFor(MISSING, now, FountainShow::firstOverload, 40);
    }

    // Statistics and output.

    private static void statisticsAndOutput() {
        Checks.promise(48, "Throws ArithmeticException if there are no jets", RefusalsTest::noMean);
        Checks.promise(49, "Throws ArithmeticException if the demand is 0", RefusalsTest::noFraction);
        Checks.promise(50, NO_FIGURE, () -> noSuchFigure(FountainShow::writeFigure));
        Checks.promise(51, "Throws IndexOutOfBoundsException if there is no such character", RefusalsTest::noSuchCharacter);
    }

    private static void noMean() {
        Checks.refused(ARITHMETIC, FountainShow::new, FountainShow::meanOpening);
        Checks.refused(ARITHMETIC, () -> Shows.figures(2), FountainShow::meanOpening);
        Checks.refused(ARITHMETIC, Checks.after(() -> Shows.jets(5), show -> show.removeJet(0)), FountainShow::meanOpening);
        Checks.allowed(() -> Shows.jets(5), FountainShow::meanOpening);
    }

    private static void noFraction() {
        Checks.refused(ARITHMETIC, FountainShow::new, FountainShow::supplyFraction);
        Checks.refused(ARITHMETIC, () -> Shows.jets(5, 6), FountainShow::supplyFraction);
        Checks.refused(ARITHMETIC, Checks.after(() -> Shows.openJets(5), show -> show.setOpening(0, 0)), FountainShow::supplyFraction);
        Checks.refused(ARITHMETIC, Checks.after(() -> Shows.jets(5), show -> show.setCapacity(0)), FountainShow::supplyFraction);
        Checks.allowed(Checks.after(() -> Shows.jets(5, 6), show -> show.setOpening(1, 1)), FountainShow::supplyFraction);
        Checks.allowed(Checks.after(() -> Shows.openJets(5), show -> show.setCapacity(0)), FountainShow::supplyFraction);
    }

    private static void noSuchCharacter() {
        noneBut(0, INDEX, FountainShow::new, FountainShow::outputCharacter);
        noneBut(18, INDEX, Shows::usual, FountainShow::outputCharacter);
        noneBut(63, INDEX, Shows::full, FountainShow::outputCharacter);
        // A shorter output leaves nothing of the longer one behind it.
        Supplier<FountainShow> emptied = Checks.after(Shows::usual, show -> show.writeFigure(2));
        for (int index = 0; index < 18; index++) {
            refusedFor(INDEX, emptied, FountainShow::outputCharacter, index);
        }
    }

    // Commands.

    private static void commands() {
        Checks.promise(53, "Throws IllegalStateException if the input buffer holds 60 characters", RefusalsTest::inputIsFull);
        Checks.promise(54, "Throws IllegalArgumentException if the text is malformed; its error position is kept",
                RefusalsTest::malformedTexts);
        Checks.promise(54, "Throws UnsupportedOperationException if a command throws an exception; the index of the command, from 0,"
                + " is kept as the failed command", RefusalsTest::failingTexts);
        Checks.promise(55, "Throws NoSuchElementException if none was kept", RefusalsTest::noErrorPosition);
        Checks.promise(56, "Throws NoSuchElementException if none was kept", RefusalsTest::noFailedCommand);
    }

    private static void inputIsFull() {
        for (char character : new char[] {0, ' ', ';', 'a', 255, 256, Character.MAX_VALUE}) {
            Checks.refused(STATE, Shows::full, show -> show.feed(character));
            Checks.refused(STATE, () -> Shows.feed(new FountainShow(), "\0".repeat(60)), show -> show.feed(character));
            Checks.allowed(() -> Shows.feed(new FountainShow(), "\0".repeat(59)), show -> show.feed(character));
            Checks.allowed(FountainShow::new, show -> show.feed(character));
        }
    }

    private static void malformedTexts() {
        malformed("", 0);
        malformed("trim;jet 1;x", 11);
        malformed("jet 1;wind +10", 13);
        malformed("pump 7;figure;pump 1000", 22);
        malformed("trim;trim;trim;trim;trim;trim;trim;trim;trim;trim;trim;trim;", 60);
        malformed("trim;trim;trim;trim;trim;trim;trim;trim;trim;trim;trim;trimx", 59);
        malformed("\uffff".repeat(60), 0);
    }

    /** Only the input buffer and the error position change; neither the state nor what can be undone does. */
    private static void malformed(String text, int position) {
        keeping(ARGUMENT, () -> Shows.usual(text), () -> Shows.usual(""), Looks.ERROR_POSITION, position);
        keeping(ARGUMENT, () -> Shows.full(text), () -> Shows.full(""), Looks.ERROR_POSITION, position);
    }

    private static void keeping(Class<?> exception, Supplier<FountainShow> fed, Supplier<FountainShow> unfed, String name, int kept) {
        Checks.due(Checks.thrown(exception), Checks.outcome(fed.get(), FountainShow::execute));
        Map<String, String> want = new LinkedHashMap<>(Looks.at(unfed));
        want.put(name, "" + kept);
        Checks.same(want, Looks.at(Checks.after(fed, FountainShow::execute)));
    }

    private static void failingTexts() {
        failingOnAll("jet 100", 0);
        failingOnAll("pump 3;open 0=11", 1);
        failingOnAll("pump 100;pump 101", 1);
        failingOnAll("trim;wind -9;pump 999", 2);
        failingOnAll("step 5+0:0=0", 0);
        failingOnAll("trim;step 9+0:0=0", 1);
        failingOnAll("step 2+21:2=10", 0);
        failingOnAll("step 2+20:2=11", 0);
        failingOnAll("play 5+1", 0);
        failingOnAll("play 2+0", 0);
        failingOnAll("play 2+31", 0);
        failingOnAll("pass 0", 0);
        failingOnAll("pass 1;pass 41", 1);
        failingOnAll("pass 40;open 2=4;wind +9;trim;pump 99;wind -1;trim;pass 000", 7);
        failingOnUsual("jet 1;jet 1", 1);
        failingOnUsual("jet 40", 0);
        failingOnUsual("open 2=9;open 3=9", 1);
        failingOnUsual("figure;figure;figure", 2);
        failingOnUsual("step 2+0:2=0;step 2+0:3=0", 1);
        failingOnUsual("play 2+1;play 2+1;play 2+1;play 2+1;play 2+1", 4);
        failingOnFull("jet 0", 0);
        failingOnFull("trim;trim;trim;trim;trim;trim;trim;trim;trim;trim;trim;jet 0", 11);
        failingOnFull("figure", 0);
        failingOnFull("step 4+0:0=0", 0);
        failingOnFull("pass 1;play 4+30", 1);
    }

    private static void failingOnAll(String text, int command) {
        failingOnUsual(text, command);
        failingOnFull(text, command);
    }

    /** Only the input buffer and the failed command change, also if earlier commands of the text went well. */
    private static void failingOnUsual(String text, int command) {
        keeping(UNSUPPORTED, () -> Shows.usual(text), () -> Shows.usual(""), Looks.FAILED_COMMAND, command);
    }

    private static void failingOnFull(String text, int command) {
        keeping(UNSUPPORTED, () -> Shows.full(text), () -> Shows.full(""), Looks.FAILED_COMMAND, command);
    }

    private static void noErrorPosition() {
        Checks.refused(MISSING, FountainShow::new, FountainShow::errorPosition);
        Checks.refused(MISSING, () -> Shows.feed(new FountainShow(), "x"), FountainShow::errorPosition);
        Checks.refused(MISSING, executed("trim"), FountainShow::errorPosition);
        Checks.refused(MISSING, executed("pass 0"), FountainShow::errorPosition);
        Checks.allowed(executed("x"), FountainShow::errorPosition);
        Checks.allowed(executed(""), FountainShow::errorPosition);
    }

    private static void noFailedCommand() {
        Checks.refused(MISSING, FountainShow::new, FountainShow::failedCommand);
        Checks.refused(MISSING, () -> Shows.feed(new FountainShow(), "pass 0"), FountainShow::failedCommand);
        Checks.refused(MISSING, executed("trim"), FountainShow::failedCommand);
        Checks.refused(MISSING, executed("pass 0;x"), FountainShow::failedCommand);
        Checks.allowed(executed("pass 0"), FountainShow::failedCommand);
    }

    private static Supplier<FountainShow> executed(String text) {
        return Checks.after(() -> Shows.feed(new FountainShow(), text), FountainShow::execute);
    }

    // Undo and saved state.

    private static void undoAndSaved() {
        Checks.promise(57, "Throws IllegalStateException if there is none", RefusalsTest::noChange);
        Checks.promise(60, "Throws IllegalStateException if nothing was saved", RefusalsTest::nothingSaved);
    }

    private static void noChange() {
        Checks.refused(STATE, FountainShow::new, FountainShow::undo);
        Checks.refused(STATE, Checks.after(Shows::usual, FountainShow::restore), FountainShow::undo);
        Checks.refused(STATE, undone(Shows::usual, 2), FountainShow::undo);
        Checks.allowed(undone(Shows::usual, 1), FountainShow::undo);
        Checks.refused(STATE, undone(Shows::full, 8), FountainShow::undo);
        Checks.allowed(undone(Shows::full, 7), FountainShow::undo);
        Checks.refused(STATE, Checks.after(FountainShow::new, show -> show.pass(0)), FountainShow::undo);
        Checks.refused(STATE, executed("pass 0"), FountainShow::undo);
        Checks.refused(STATE, Checks.after(FountainShow::new, FountainShow::save), FountainShow::undo);
        Checks.allowed(Checks.after(FountainShow::new, FountainShow::trim), FountainShow::undo);
    }

    private static Supplier<FountainShow> undone(Supplier<FountainShow> made, int changes) {
        return () -> {
            FountainShow show = made.get();
            for (int change = 0; change < changes; change++) {
                show.undo();
            }
            return show;
        };
    }

    private static void nothingSaved() {
        Checks.refused(STATE, FountainShow::new, FountainShow::restore);
        Checks.refused(STATE, () -> Shows.openJets(1, 2, 3), FountainShow::restore);
        Checks.refused(STATE, Checks.after(() -> Shows.jets(1, 2, 3), FountainShow::undo), FountainShow::restore);
        Checks.allowed(Checks.after(FountainShow::new, FountainShow::save), FountainShow::restore);
        Checks.allowed(Checks.after(Shows::usual, FountainShow::restore), FountainShow::restore);
    }
}
