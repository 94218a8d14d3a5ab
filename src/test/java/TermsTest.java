import java.util.ArrayList;
import java.util.LinkedHashMap;
import java.util.List;
import java.util.Map;
import java.util.NoSuchElementException;
import java.util.function.Supplier;

/** A test for each sentence of the document's section "Terms", with the bounds that it names. */
public final class TermsTest {
    private static final Class<?> INDEX = IndexOutOfBoundsException.class;
    private static final Class<?> ARGUMENT = IllegalArgumentException.class;
    private static final Class<?> STATE = IllegalStateException.class;
    private static final Class<?> UNSUPPORTED = UnsupportedOperationException.class;
    private static final Class<?> MISSING = NoSuchElementException.class;

    private TermsTest() {
    }

    public static void main(String[] args) {
        jets();
        pump();
        wind();
        trimming();
        figures();
        queue();
        beats();
        crossings();
        commands();
        undo();
        exceptions();
        Checks.finish("terms", new Document(args).terms());
    }

    // Jets.

    private static void jets() {
        Checks.sentence("There are at most 10 jets; their indices start at 0 and follow the order in which they were added.",
                TermsTest::tenJetsInOrder);
        Checks.sentence("A jet has a position from 0 to 99 metres along the basin, which no other jet has, and a valve with an"
                + " opening from 0 to 10, initially 0.", TermsTest::positionAndOpening);
        Checks.sentence("When a jet is removed, the indices of the later jets decrease by 1, all steps for the removed jet are"
                + " removed from the figures, and the steps for later jets are for the same jets as before.",
                TermsTest::removalOfJets);
    }

    private static void tenJetsInOrder() {
        FountainShow show = new FountainShow();
        int[] positions = {50, 99, 0, 7, 93, 1, 98, 42, 41, 40};
        for (int jet = 0; jet < 10; jet++) {
            Checks.due(jet, show.jetCount());
            Checks.due(jet, show.addJet(positions[jet]));
        }
        for (int jet = 0; jet < 10; jet++) {
            Checks.due(positions[jet], show.position(jet));
        }
        Checks.due(Checks.thrown(STATE), Checks.outcome(show, s -> s.addJet(60)));
        Checks.due(10, show.jetCount());
    }

    private static void positionAndOpening() {
        FountainShow show = new FountainShow();
        for (int position : new int[] {0, 99, 1, 98}) {
            int jet = show.addJet(position);
            Checks.due(position, show.position(jet));
            Checks.due(0, show.opening(jet));
            Checks.due(Checks.thrown(UNSUPPORTED), Checks.outcome(show, s -> s.addJet(position)));
            show.setOpening(jet, 10);
            Checks.due(10, show.opening(jet));
            show.setOpening(jet, 0);
            Checks.due(0, show.opening(jet));
        }
        for (int outside : new int[] {-1, 100, Integer.MIN_VALUE, Integer.MAX_VALUE}) {
            Checks.due(Checks.thrown(ARGUMENT), Checks.outcome(show, s -> s.addJet(outside)));
        }
        for (int outside : new int[] {-1, 11, Integer.MIN_VALUE, Integer.MAX_VALUE}) {
            Checks.due(Checks.thrown(ARGUMENT), Checks.outcome(show, s -> s.setOpening(0, outside)));
        }
        // A new jet is closed also where an open one stood before in the row.
        show.setOpening(3, 10);
        show.removeJet(3);
        Checks.due(0, show.opening(show.addJet(98)));
    }

    private static void removalOfJets() {
        int[] positions = {90, 81, 72, 63, 54, 9, 18, 27, 36, 45};
        for (int removed = 0; removed < 10; removed++) {
            FountainShow show = Shows.full();
            List<String> want = new ArrayList<>();
            int gone = 0;
            for (int figure = 0; figure < 5; figure++) {
                for (int step = 0; step < 8; step++) {
                    int jet = show.stepJet(figure, step);
                    gone += jet == removed ? 1 : 0;
                    if (jet != removed) {
                        want.add(figure + " " + show.stepDelay(figure, step) + " " + positions[jet] + " " + show.stepOpening(figure, step));
                    }
                }
            }
            Checks.due(gone, show.removeJet(removed));
            Checks.due(9, show.jetCount());
            for (int jet = 0; jet < 9; jet++) {
                Checks.due(positions[jet < removed ? jet : jet + 1], show.position(jet));
                Checks.due(jet + (jet < removed ? 0 : 1) == 9 ? 3 : 10, show.opening(jet));
            }
            Checks.due(want, stepsByPosition(show));
        }
        FountainShow last = Shows.usual("");
        for (int jet = 2; jet >= 0; jet--) {
            last.removeJet(jet);
        }
        Checks.due(0, last.jetCount());
        Checks.due(0, last.stepCount(0) + last.stepCount(1) + last.stepCount(2));
        Checks.due(2, last.pass(40));
    }

    private static List<String> stepsByPosition(FountainShow show) {
        List<String> steps = new ArrayList<>();
        for (int figure = 0; figure < show.figureCount(); figure++) {
            for (int step = 0; step < show.stepCount(figure); step++) {
                int position = show.position(show.stepJet(figure, step));
                steps.add(figure + " " + show.stepDelay(figure, step) + " " + position + " " + show.stepOpening(figure, step));
            }
        }
        return steps;
    }

    // Pump.

    private static void pump() {
        Checks.sentence("What the pump supplies is never more than what the jets demand.", TermsTest::noMoreThanDemanded);
        Checks.sentence("The pump has a capacity from 0 to 100, initially 40.", TermsTest::capacities);
        Checks.sentence("The demand is the sum of the openings of all jets.", TermsTest::sumOfOpenings);
        Checks.sentence("The supply is the demand, or the capacity if that is less.", TermsTest::supplies);
        Checks.sentence("The height of a jet in decimetres is 10 times its opening if the demand is not greater than the capacity;"
                + " otherwise it is 10 times its opening times the capacity, divided by the demand and rounded down.",
                TermsTest::heights);
    }

    private static void noMoreThanDemanded() {
        for (int open = 0; open <= 10; open++) {
            FountainShow show = Shows.jets(10, 20, 30, 40, 50, 60, 70, 80, 90, 99);
            for (int jet = 0; jet < open; jet++) {
                show.setOpening(jet, 10);
            }
            for (int capacity = 0; capacity <= 100; capacity += 5) {
                show.setCapacity(capacity);
                Checks.due(true, show.supply() <= show.demand());
                Checks.due(true, show.supply() <= capacity);
            }
            long before = show.pumped();
            show.pass(1);
            Checks.due(10L * open, show.pumped() - before);
        }
    }

    private static void capacities() {
        FountainShow show = new FountainShow();
        Checks.due(40, show.capacity());
        for (int capacity : new int[] {0, 100, 1, 99}) {
            show.setCapacity(capacity);
            Checks.due(capacity, show.capacity());
        }
        for (int outside : new int[] {-1, 101, Integer.MIN_VALUE, Integer.MAX_VALUE}) {
            Checks.due(Checks.thrown(ARGUMENT), Checks.outcome(show, s -> s.setCapacity(outside)));
            Checks.due(99, show.capacity());
        }
    }

    private static void sumOfOpenings() {
        FountainShow show = Shows.jets(10, 20, 30, 40, 50, 60, 70, 80, 90, 99);
        Checks.due(0, show.demand());
        for (int jet = 0; jet < 10; jet++) {
            show.setOpening(jet, jet + 1);
            Checks.due((jet + 1) * (jet + 2) / 2, show.demand());
        }
        show.setCapacity(0);
        Checks.due(55, show.demand());
        for (int jet = 0; jet < 10; jet++) {
            show.setOpening(jet, 10);
        }
        Checks.due(100, show.demand());
        show.removeJet(9);
        Checks.due(90, show.demand());
        Checks.due(0, new FountainShow().demand());
    }

    private static void supplies() {
        FountainShow show = Shows.openJets(10, 20, 30, 40);
        Checks.due(40, show.supply());
        show.setCapacity(41);
        Checks.due(40, show.supply());
        show.setCapacity(39);
        Checks.due(39, show.supply());
        show.setCapacity(0);
        Checks.due(0, show.supply());
        Checks.due(0, new FountainShow().supply());
        FountainShow most = Shows.full();
        most.setOpening(9, 10);
        most.setCapacity(100);
        Checks.due(100, most.supply());
    }

    private static void heights() {
        FountainShow show = Shows.openJets(10, 20, 30, 40);
        show.setOpening(3, 7);
        show.setCapacity(37);
        Checks.due(100, show.height(0));
        Checks.due(70, show.height(3));
        show.setCapacity(36);
        Checks.due(97, show.height(0));
        Checks.due(68, show.height(3));
        show.setCapacity(38);
        Checks.due(100, show.height(0));
        show.setCapacity(1);
        Checks.due(2, show.height(0));
        Checks.due(1, show.height(3));
        show.setOpening(3, 0);
        Checks.due(0, show.height(3));
        show.setCapacity(0);
        Checks.due(0, show.height(0));
        FountainShow closed = Shows.jets(10);
        Checks.due(0, closed.height(0));
        closed.setCapacity(0);
        Checks.due(0, closed.height(0));
        closed.setOpening(0, 1);
        Checks.due(0, closed.height(0));
        closed.setCapacity(1);
        Checks.due(10, closed.height(0));
        // Down, not to the nearest: 10 times 10 times 99 through 100 is 99, 10 times 1 times 99 through 91 is 10.8.
        FountainShow most = Shows.full();
        most.setOpening(9, 10);
        most.setCapacity(99);
        Checks.due(99, most.height(0));
        most.setCapacity(90);
        most.setOpening(0, 1);
        Checks.due(9, most.height(0));
        Checks.due(98, most.height(1));
    }

    // Wind.

    private static void wind() {
        Checks.sentence("The wind is from -9 to 9, initially 0.", TermsTest::winds);
        Checks.sentence("The drift of a jet in metres is its height times the wind, divided by 20 and rounded towards 0.", TermsTest::drifts);
        Checks.sentence("The landing of a jet is its position plus its drift.", TermsTest::landings);
        Checks.sentence("A jet is wild if its landing is less than 0 or greater than 99.", TermsTest::wildness);
    }

    private static void winds() {
        FountainShow show = new FountainShow();
        Checks.due(0, show.wind());
        for (int wind : new int[] {-9, 9, -8, 8}) {
            show.setWind(wind);
            Checks.due(wind, show.wind());
        }
        for (int outside : new int[] {-10, 10, Integer.MIN_VALUE, Integer.MAX_VALUE}) {
            Checks.due(Checks.thrown(ARGUMENT), Checks.outcome(show, s -> s.setWind(outside)));
            Checks.due(8, show.wind());
        }
    }

    private static void drifts() {
        FountainShow show = Shows.jets(50);
        int[][] openingWindDrift = {{1, 1, 0}, {1, -1, 0}, {1, 2, 1}, {1, -2, -1}, {3, 1, 1}, {3, -1, -1}, {3, 3, 4},
            {3, -3, -4}, {10, 9, 45}, {10, -9, -45}, {9, 9, 40}, {9, -9, -40}, {10, 0, 0}, {0, 9, 0}, {0, -9, 0}};
        for (int[] row : openingWindDrift) {
            show.setOpening(0, row[0]);
            show.setWind(row[1]);
            Checks.due(row[2], show.landing(0) - 50);
        }
        // It is the height that drifts, not the opening: 15 decimetres here, of an opening of 10.
        FountainShow low = Shows.openJets(50, 51);
        low.setCapacity(3);
        Checks.due(15, low.height(0));
        int[][] windDrift = {{1, 0}, {-1, 0}, {2, 1}, {-2, -1}, {9, 6}, {-9, -6}};
        for (int[] row : windDrift) {
            low.setWind(row[0]);
            Checks.due(row[1], low.landing(0) - 50);
        }
    }

    private static void landings() {
        FountainShow show = Shows.openJets(0, 99, 45);
        Checks.due(0, show.landing(0));
        Checks.due(99, show.landing(1));
        show.setWind(9);
        Checks.due(45, show.landing(0));
        Checks.due(144, show.landing(1));
        show.setWind(-9);
        Checks.due(-45, show.landing(0));
        Checks.due(54, show.landing(1));
        Checks.due(0, show.landing(2));
    }

    private static void wildness() {
        FountainShow show = Shows.openJets(45, 44, 54, 55);
        show.setWind(-9);
        checkLanding(show, 0, 0, false);
        checkLanding(show, 1, -1, true);
        show.setWind(9);
        checkLanding(show, 2, 99, false);
        checkLanding(show, 3, 100, true);
        FountainShow ends = Shows.jets(0, 99);
        ends.setWind(-9);
        checkLanding(ends, 0, 0, false);
        ends.setWind(9);
        checkLanding(ends, 1, 99, false);
        ends.setOpening(1, 10);
        checkLanding(ends, 1, 144, true);
        // A drift that is rounded to 0 carries no jet out of the basin.
        ends.setOpening(0, 1);
        ends.setOpening(1, 1);
        ends.setWind(-1);
        checkLanding(ends, 0, 0, false);
        ends.setWind(1);
        checkLanding(ends, 1, 99, false);
    }

    private static void checkLanding(FountainShow show, int jet, int landing, boolean wild) {
        Checks.due(landing, show.landing(jet));
        Checks.due(wild, show.isWild(jet));
    }

    // Trimming.

    private static void trimming() {
        Checks.sentence("To trim means: as long as there is a wild jet, the opening of the wild jet with the smallest index decreases by 1.",
                TermsTest::trims);
        Checks.sentence("Heights and landings change with each decrease, also those of other jets.", TermsTest::trimsAnew);
    }

    private static void trims() {
        FountainShow none = Shows.openJets(45, 54);
        none.setWind(-9);
        Checks.due(0, none.trim());
        Checks.due(20, none.demand());
        Checks.due(0, new FountainShow().trim());
        FountainShow one = Shows.openJets(44);
        one.setWind(-9);
        Checks.due(1, one.trim());
        Checks.due(9, one.opening(0));
        FountainShow all = Shows.openJets(0, 1);
        all.setWind(-9);
        Checks.due(20, all.trim());
        Checks.due(0, all.demand());
        Checks.due(0, all.wildCount());
        FountainShow scarce = Shows.openJets(54, 55);
        scarce.setCapacity(19);
        scarce.setWind(9);
        // Both drift by 42; 55 lands on 97, and nothing is wild before the capacity suffices.
        Checks.due(0, scarce.trim());
        scarce.setCapacity(20);
        Checks.due(1, scarce.trim());
        Checks.due(10, scarce.opening(0));
        Checks.due(9, scarce.opening(1));
    }

    /** The wild jet 1 is closed by 1; that lifts jet 0, which is wild then and comes first, and so on. */
    private static void trimsAnew() {
        FountainShow show = Shows.openJets(57, 60, 10);
        show.setCapacity(28);
        show.setWind(9);
        Checks.due(98, show.landing(0));
        Checks.due(101, show.landing(1));
        Checks.due(false, show.isWild(0));
        Checks.due(byHand(new int[] {57, 60, 10}, new int[] {10, 10, 10}, 28, 9), trimmed(show));
        for (int capacity = 0; capacity <= 100; capacity += 4) {
            for (int wind = -9; wind <= 9; wind += 3) {
                int[] positions = {90, 9, 81, 18, 72, 27, 63, 36, 54, 45};
                FountainShow many = Shows.openJets(positions);
                many.setCapacity(capacity);
                many.setWind(wind);
                int[] openings = {10, 10, 10, 10, 10, 10, 10, 10, 10, 10};
                Checks.due(byHand(positions, openings, capacity, wind), trimmed(many));
            }
        }
    }

    private static String trimmed(FountainShow show) {
        StringBuilder openings = new StringBuilder();
        int answer = show.trim();
        for (int jet = 0; jet < show.jetCount(); jet++) {
            openings.append(' ').append(show.opening(jet));
        }
        return answer + ":" + openings;
    }

    /** Trims as the sentences say, one decrease after the other. */
    private static String byHand(int[] positions, int[] openings, int capacity, int wind) {
        int decreased = 0;
        for (int jet = 0; jet < openings.length; jet++) {
            int demand = 0;
            for (int opening : openings) {
                demand += opening;
            }
            int height = demand <= capacity ? 10 * openings[jet] : 10 * openings[jet] * capacity / demand;
            int landing = positions[jet] + height * wind / 20;
            if (landing < 0 || landing > 99) {
                openings[jet]--;
                decreased++;
                jet = -1;
            }
        }
        StringBuilder left = new StringBuilder();
        for (int opening : openings) {
            left.append(' ').append(opening);
        }
        return decreased + ":" + left;
    }

    // Figures.

    private static void figures() {
        Checks.sentence("There are at most 5 figures; their indices start at 0 and follow the order in which they were added.",
                TermsTest::fiveFiguresInOrder);
        Checks.sentence("A figure has at most 8 steps, in the order in which they were added.", TermsTest::eightStepsInOrder);
        Checks.sentence("A step has a delay from 0 to 20 beats, a jet, and an opening from 0 to 10.", TermsTest::stepBounds);
        Checks.sentence("When a figure is removed, the indices of the later figures decrease by 1.", TermsTest::removalOfFigures);
    }

    private static void fiveFiguresInOrder() {
        FountainShow show = Shows.jets(5);
        for (int figure = 0; figure < 5; figure++) {
            Checks.due(figure, show.figureCount());
            Checks.due(figure, show.addFigure());
            show.addStep(figure, figure, 0, 10 - figure);
        }
        Checks.due(Checks.thrown(STATE), Checks.outcome(show, FountainShow::addFigure));
        for (int figure = 0; figure < 5; figure++) {
            Checks.due(figure + ":0=" + (10 - figure), Shows.written(show, figure));
        }
        Checks.due(5, show.figureCount());
    }

    private static void eightStepsInOrder() {
        FountainShow show = Shows.jets(5, 6);
        show.addFigure();
        show.addFigure();
        int[] delays = {20, 3, 3, 0, 19, 1, 20, 2};
        for (int step = 0; step < 8; step++) {
            Checks.due(step + 1, show.addStep(0, delays[step], step % 2, step));
        }
        Checks.due(Checks.thrown(STATE), Checks.outcome(show, s -> s.addStep(0, 1, 1, 1)));
        for (int step = 0; step < 8; step++) {
            Checks.due(delays[step], show.stepDelay(0, step));
            Checks.due(step % 2, show.stepJet(0, step));
            Checks.due(step, show.stepOpening(0, step));
        }
        Checks.due(8, show.stepCount(0));
        Checks.due(0, show.stepCount(1));
    }

    private static void stepBounds() {
        FountainShow show = Shows.jets(0, 1, 2, 3, 4, 5, 6, 7, 8, 9);
        show.addFigure();
        show.addStep(0, 0, 0, 0);
        show.addStep(0, 20, 9, 10);
        Checks.due("0:0=0 20:9=10", Shows.written(show, 0));
        for (int outside : new int[] {-1, 21, Integer.MIN_VALUE, Integer.MAX_VALUE}) {
            Checks.due(Checks.thrown(ARGUMENT), Checks.outcome(show, s -> s.addStep(0, outside, 0, 0)));
        }
        for (int outside : new int[] {-1, 11, Integer.MIN_VALUE, Integer.MAX_VALUE}) {
            Checks.due(Checks.thrown(ARGUMENT), Checks.outcome(show, s -> s.addStep(0, 0, 0, outside)));
        }
        for (int outside : new int[] {-1, 10, Integer.MIN_VALUE, Integer.MAX_VALUE}) {
            Checks.due(Checks.thrown(INDEX), Checks.outcome(show, s -> s.addStep(0, 0, outside, 0)));
        }
    }

    private static void removalOfFigures() {
        for (int removed = 0; removed < 5; removed++) {
            FountainShow show = Shows.full();
            List<String> want = new ArrayList<>();
            for (int figure = 0; figure < 5; figure++) {
                if (figure != removed) {
                    want.add(Shows.written(show, figure));
                }
            }
            for (int entry = 5; entry >= 0; entry--) {
                if (show.entryFigure(entry) == removed) {
                    show.cancel(entry);
                }
            }
            List<String> played = playedFigures(show);
            Checks.due(8, show.removeFigure(removed));
            Checks.due(4, show.figureCount());
            List<String> got = new ArrayList<>();
            for (int figure = 0; figure < 4; figure++) {
                got.add(Shows.written(show, figure));
            }
            Checks.due(want, got);
            Checks.due(played, playedFigures(show));
        }
        FountainShow one = Shows.figures(1);
        one.removeFigure(0);
        Checks.due(0, one.figureCount());
        Checks.due(0, one.addFigure());
    }

    private static List<String> playedFigures(FountainShow show) {
        List<String> played = new ArrayList<>();
        for (int entry = 0; entry < show.queueLength(); entry++) {
            played.add(Shows.written(show, show.entryFigure(entry)));
        }
        return played;
    }

    // Queue.

    private static void queue() {
        Checks.sentence("The queue holds at most 6 entries, in the order in which they were added; their indices start at 0.",
                TermsTest::sixEntriesInOrder);
        Checks.sentence("An entry has a figure and a start beat.", TermsTest::figureAndStart);
        Checks.sentence("A figure is played with the steps that it has when the beat passes.", TermsTest::playedAsItIs);
    }

    private static void sixEntriesInOrder() {
        FountainShow show = Shows.figures(3);
        int[] waits = {30, 1, 17, 1, 29, 2};
        for (int entry = 0; entry < 6; entry++) {
            Checks.due(entry, show.queueLength());
            show.play(entry % 3, waits[entry]);
        }
        Checks.due(Checks.thrown(STATE), Checks.outcome(show, s -> s.play(0, 1)));
        Checks.due(6, show.queueLength());
        for (int entry = 0; entry < 6; entry++) {
            Checks.due(entry % 3, show.entryFigure(entry));
            Checks.due(waits[entry], show.entryStart(entry));
        }
        show.pass(1);
        Checks.due(4, show.queueLength());
        Checks.due("30 17 29 2", starts(show));
        show.cancel(1);
        Checks.due("30 29 2", starts(show));
        show.play(0, 5);
        Checks.due("30 29 2 6", starts(show));
    }

    private static String starts(FountainShow show) {
        StringBuilder starts = new StringBuilder();
        for (int entry = 0; entry < show.queueLength(); entry++) {
            starts.append(entry == 0 ? "" : " ").append(show.entryStart(entry));
        }
        return starts.toString();
    }

    private static void figureAndStart() {
        FountainShow show = Shows.figures(5);
        show.pass(40);
        show.play(4, 30);
        show.play(0, 1);
        Checks.due(4, show.entryFigure(0));
        Checks.due(70, show.entryStart(0));
        Checks.due(0, show.entryFigure(1));
        Checks.due(41, show.entryStart(1));
    }

    private static void playedAsItIs() {
        FountainShow show = Shows.jets(5, 6);
        show.addFigure();
        show.addStep(0, 3, 0, 7);
        show.play(0, 2);
        show.pass(3);
        show.removeStep(0, 0);
        show.addStep(0, 2, 0, 4);
        show.addStep(0, 9, 1, 5);
        show.pass(1);
        Checks.due(4, show.opening(0));
        Checks.due(1, show.queueLength());
        Checks.due(0, show.pass(6));
        Checks.due(1, show.pass(1));
        Checks.due(4, show.opening(0));
        Checks.due(5, show.opening(1));
        // Also the steps of jets: those that are left are for the same jets.
        show.play(0, 1);
        show.removeJet(0);
        show.setOpening(0, 0);
        show.pass(10);
        Checks.due(5, show.opening(0));
    }

    // Beats.

    private static void beats() {
        Checks.sentence("The current beat is 0 at first.", () -> Checks.due(0, new FountainShow().beat()));
        Checks.sentence("When a beat passes, the current beat increases by 1.", TermsTest::beatsIncrease);
        Checks.sentence("Then the steps that are due happen: a step of an entry is due if the start beat of the entry plus the delay"
                + " of the step equals the current beat.", TermsTest::dueSteps);
        Checks.sentence("They happen in the order of the entries, and in the order of the steps for the same entry; a step that"
                + " happens sets the opening of its jet.", TermsTest::orderOfSteps);
        Checks.sentence("A step that is added when its beat has passed already never happens for that entry.", TermsTest::lateSteps);
        Checks.sentence("Then each entry whose start beat plus the greatest delay of its figure, or 0 for a figure without steps, is"
                + " not greater than the current beat is finished and leaves the queue.", TermsTest::finishedEntries);
        Checks.sentence("Then the supply is added to the water that was pumped so far, and the demand less the supply to the shortage"
                + " so far.", TermsTest::waterAccounts);
    }

    private static void beatsIncrease() {
        FountainShow show = new FountainShow();
        show.pass(1);
        Checks.due(1, show.beat());
        show.pass(40);
        Checks.due(41, show.beat());
        FountainShow longest = new FountainShow();
        for (int call = 1; call <= 511; call++) {
            longest.pass(40);
        }
        Checks.due(20440, longest.beat());
    }

    private static void dueSteps() {
        int[][] waitDelay = {{1, 0}, {30, 0}, {1, 20}, {30, 20}, {7, 13}};
        for (int[] row : waitDelay) {
            for (int before : new int[] {0, 1, 40}) {
                FountainShow show = Shows.jets(5);
                if (before > 0) {
                    show.pass(before);
                }
                show.addFigure();
                show.addStep(0, row[1], 0, 10);
                show.addStep(0, 20, 0, 10);
                show.play(0, row[0]);
                for (int passed = 1; passed <= row[0] + row[1]; passed++) {
                    Checks.due(0, show.opening(0));
                    show.pass(1);
                }
                Checks.due(10, show.opening(0));
                Checks.due(before + row[0] + row[1], show.beat());
                // It happens in that beat alone.
                show.setOpening(0, 3);
                if (row[1] < 20) {
                    show.pass(19 - row[1]);
                    Checks.due(3, show.opening(0));
                }
            }
        }
    }

    private static void orderOfSteps() {
        FountainShow show = Shows.jets(5, 6);
        show.addFigure();
        show.addStep(0, 2, 0, 1);
        show.addStep(0, 2, 0, 2);
        show.addStep(0, 2, 1, 9);
        show.addStep(0, 2, 1, 0);
        show.addFigure();
        show.addStep(1, 0, 0, 3);
        show.play(0, 1);
        show.pass(3);
        Checks.due(2, show.opening(0));
        Checks.due(0, show.opening(1));
        // Entry 0 is first, though it starts later and its figure comes later.
        show.play(1, 3);
        show.play(0, 1);
        show.pass(3);
        Checks.due(2, show.opening(0));
        show.play(0, 1);
        show.play(1, 3);
        show.pass(3);
        Checks.due(3, show.opening(0));
        FountainShow six = Shows.figures(5);
        six.addJet(5);
        for (int figure = 0; figure < 5; figure++) {
            six.addStep(figure, 0, 0, figure + 1);
        }
        for (int entry = 0; entry < 6; entry++) {
            six.play((entry + 3) % 5, 1);
        }
        Checks.due(6, six.pass(1));
        Checks.due(4, six.opening(0));
    }

    private static void lateSteps() {
        FountainShow show = Shows.jets(5, 6);
        show.addFigure();
        show.addStep(0, 20, 1, 10);
        show.play(0, 1);
        show.play(0, 4);
        show.pass(3);
        show.addStep(0, 1, 0, 7);
        // Due in beat 2 for the first entry, which has passed, and in beat 5 for the second one.
        show.pass(1);
        Checks.due(0, show.opening(0));
        show.pass(1);
        Checks.due(7, show.opening(0));
        FountainShow now = Shows.jets(5, 6);
        now.addFigure();
        now.addStep(0, 20, 1, 10);
        now.play(0, 1);
        now.pass(3);
        now.addStep(0, 2, 0, 8);
        now.pass(20);
        Checks.due(0, now.opening(0));
        Checks.due(0, now.queueLength());
        FountainShow next = Shows.jets(5, 6);
        next.addFigure();
        next.addStep(0, 20, 1, 10);
        next.play(0, 1);
        next.pass(3);
        next.addStep(0, 3, 0, 8);
        next.pass(1);
        Checks.due(8, next.opening(0));
    }

    private static void finishedEntries() {
        FountainShow show = Shows.jets(5);
        show.addFigure();
        show.play(0, 2);
        Checks.due(0, show.pass(1));
        Checks.due(1, show.pass(1));
        show.addStep(0, 3, 0, 1);
        show.addStep(0, 1, 0, 2);
        show.play(0, 2);
        Checks.due(0, show.pass(4));
        Checks.due(1, show.queueLength());
        Checks.due(1, show.pass(1));
        Checks.due(0, show.queueLength());
        // The step of the last beat happens before the entry leaves.
        Checks.due(1, show.opening(0));
        show.addStep(0, 20, 0, 3);
        show.play(0, 30);
        Checks.due(0, show.pass(40));
        Checks.due(0, show.pass(9));
        Checks.due(1, show.pass(1));
        Checks.due(3, show.opening(0));
        // What is over already, as its last step is gone, leaves with the next beat and not before.
        show.play(0, 1);
        show.pass(10);
        show.removeStep(0, 2);
        Checks.due(1, show.queueLength());
        Checks.due(1, show.pass(1));
        // Those that are left move up, in their order.
        FountainShow six = Shows.figures(1);
        int[] waits = {1, 3, 1, 4, 1, 2};
        for (int wait : waits) {
            six.play(0, wait);
        }
        Checks.due(3, six.pass(1));
        Checks.due("3 4 2", starts(six));
    }

    private static void waterAccounts() {
        FountainShow show = Shows.openJets(5, 6, 7, 8);
        show.setOpening(3, 9);
        show.setCapacity(39);
        show.pass(1);
        Checks.due("39 0", water(show));
        show.setCapacity(38);
        show.pass(1);
        Checks.due("77 1", water(show));
        show.setCapacity(0);
        show.pass(2);
        Checks.due("77 79", water(show));
        // A beat's steps happen before its water is counted, and each beat of a call is counted by itself.
        show.setCapacity(30);
        show.addFigure();
        show.addStep(0, 0, 0, 0);
        show.addStep(0, 1, 0, 10);
        show.play(0, 2);
        show.pass(3);
        Checks.due("166 97", water(show));
        FountainShow most = Shows.openJets(0, 1, 2, 3, 4, 5, 6, 7, 8, 9);
        most.setCapacity(100);
        for (int call = 0; call < 230; call++) {
            most.pass(40);
        }
        Checks.due("920000 0", water(most));
        most.setCapacity(0);
        for (int call = 0; call < 230; call++) {
            most.pass(40);
        }
        Checks.due("920000 920000", water(most));
    }

    private static String water(FountainShow show) {
        return show.pumped() + " " + show.shortage();
    }

    // Crossings.

    private static void crossings() {
        Checks.sentence("Two jets cross if the one with the smaller position has the greater landing.", TermsTest::crossingJets);
    }

    private static void crossingJets() {
        // Two jets land on 55 and on their own place: crossing, then meeting, which is no crossing.
        for (int place : new int[] {54, 55, 56}) {
            FountainShow show = Shows.jets(10, place);
            show.setOpening(0, 10);
            show.setWind(9);
            Checks.due(55, show.landing(0));
            crossing(show, place == 54 ? 1 : 0);
            FountainShow turned = Shows.jets(place, 10);
            turned.setOpening(1, 10);
            turned.setWind(9);
            crossing(turned, place == 54 ? 1 : 0);
        }
        crossing(new FountainShow(), 0);
        crossing(Shows.openJets(5), 0);
        crossing(Shows.jets(9, 8, 7, 6, 5, 4, 3, 2, 1, 0), 0);
        for (int wind : new int[] {9, -9}) {
            FountainShow all = Shows.jets(50, 51, 52, 53, 54, 55, 56, 57, 58, 59);
            all.setCapacity(100);
            for (int jet = 0; jet < 10; jet++) {
                all.setOpening(jet, wind > 0 ? 10 - jet : jet + 1);
            }
            all.setWind(wind);
            crossing(all, 45);
            all.setWind(0);
            crossing(all, 0);
            all.setWind(-wind);
            crossing(all, 0);
        }
    }

    private static void crossing(FountainShow show, int pairs) {
        Checks.due(pairs, show.crossings());
        Checks.due(pairs, show.crossingsByMerging());
    }

    // Commands.

    private static void commands() {
        Checks.sentence("The input buffer holds at most 60 characters.", TermsTest::sixtyCharacters);
        Checks.sentence("A text consists of one or more commands, separated by semicolons:", TermsTest::oneOrMoreCommands);
        Checks.sentence("\"jet \" and a number adds a jet at a position; \"open \", a digit, \"=\" and a number sets the opening of a"
                + " jet; \"pump \" and a number sets the capacity; \"wind \", \"+\" or \"-\" and a digit sets the wind;"
                + " \"trim\" trims; \"figure\" adds a figure; \"step \", a digit, \"+\", a number, \":\", a digit, \"=\" and a"
                + " number adds a step with a delay, a jet and an opening to a figure; \"play \", a digit, \"+\" and a number"
                + " adds a figure to the queue with a number of beats until it starts; \"pass \" and a number lets beats"
                + " pass.", TermsTest::eachCommand);
        Checks.sentence("Numbers have one to three digits.", TermsTest::oneToThreeDigits);
        Checks.sentence("A text is malformed if it does not have this form.", TermsTest::malformedTexts);
        Checks.sentence("Its error position is the index of the first character that cannot continue a well-formed text, or the length"
                + " of the text if the text ends too early.", TermsTest::errorPositions);
        Checks.sentence("Keywords are compared letter by letter.", TermsTest::letterByLetter);
    }

    private static void sixtyCharacters() {
        FountainShow show = new FountainShow();
        for (int length = 1; length <= 60; length++) {
            Checks.due(length, show.feed(Shows.FULL_TEXT.charAt(length - 1)));
        }
        Checks.due(Checks.thrown(STATE), Checks.outcome(show, s -> s.feed(';')));
        Checks.due(Checks.thrown(UNSUPPORTED), Checks.outcome(show, FountainShow::execute));
        Checks.due(2, show.failedCommand());
        Checks.due("12", Shows.run(show, "trim;trim;trim;trim;trim;trim;trim;trim;trim;trim;trim;jet 5"));
        Checks.due(1, show.jetCount());
    }

    private static void oneOrMoreCommands() {
        Checks.due(Checks.thrown(ARGUMENT), Shows.run(new FountainShow(), ""));
        Checks.due(Checks.thrown(ARGUMENT), Shows.run(new FountainShow(), ";"));
        Checks.due(Checks.thrown(ARGUMENT), Shows.run(new FountainShow(), "trim;"));
        Checks.due(Checks.thrown(ARGUMENT), Shows.run(new FountainShow(), ";trim"));
        Checks.due(Checks.thrown(ARGUMENT), Shows.run(new FountainShow(), "trim;;trim"));
        Checks.due(Checks.thrown(ARGUMENT), Shows.run(new FountainShow(), "trim,trim"));
        StringBuilder text = new StringBuilder("trim");
        for (int commands = 1; commands <= 12; commands++) {
            Checks.due("" + commands, Shows.run(new FountainShow(), text.toString()));
            text.append(";trim");
        }
        FountainShow show = new FountainShow();
        Checks.due("4", Shows.run(show, "jet 5;open 0=3;jet 6;open 1=4"));
        Checks.due("3 4", show.opening(0) + " " + show.opening(1));
    }

    /** Each command does what the call does; the least and the greatest that its form and the bounds allow. */
    private static void eachCommand() {
        command("jet 0", show -> show.addJet(0));
        command("jet 99", show -> show.addJet(99));
        command("open 0=0", show -> show.setOpening(0, 0));
        command("open 2=10", show -> show.setOpening(2, 10));
        command("pump 0", show -> show.setCapacity(0));
        command("pump 100", show -> show.setCapacity(100));
        command("wind +9", show -> show.setWind(9));
        command("wind -9", show -> show.setWind(-9));
        command("wind +0", show -> show.setWind(0));
        command("wind -0", show -> show.setWind(0));
        command("trim", FountainShow::trim);
        command("figure", FountainShow::addFigure);
        command("step 0+0:0=0", show -> show.addStep(0, 0, 0, 0));
        command("step 2+20:1=10", show -> show.addStep(2, 20, 1, 10));
        command("play 0+1", show -> show.play(0, 1));
        command("play 2+30", show -> show.play(2, 30));
        command("pass 1", show -> show.pass(1));
        command("pass 40", show -> show.pass(40));
        FountainShow full = Shows.full("open 9=10;pass 40;step 4+20:9=10");
        full.removeStep(4, 0);
        Checks.due("3", Checks.outcome(full, FountainShow::execute));
        Checks.due("20:9=10", Shows.written(full, 4).substring(56));
        FountainShow wild = Shows.openJets(0);
        Checks.due("2", Shows.run(wild, "wind -9;trim"));
        Checks.due(0, wild.opening(0));
    }

    private static void command(String text, Checks.Call call) {
        FountainShow called = Shows.usual("");
        call.on(called);
        FountainShow executed = Shows.usual("");
        Checks.due("1", Shows.run(executed, text));
        Checks.due(Looks.state(called), Looks.state(executed));
        Checks.due(called.undoCount(), executed.undoCount());
    }

    private static void oneToThreeDigits() {
        for (String number : new String[] {"7", "07", "007"}) {
            FountainShow show = Shows.jets(5);
            show.addFigure();
            Checks.due("5", Shows.run(show, "jet " + number + ";open 0=" + number + ";pump " + number + ";play 0+" + number + ";pass " + number));
            Checks.due("7 7 7 7", show.position(1) + " " + show.opening(0) + " " + show.capacity() + " " + show.beat());
            Checks.due("1", Shows.run(show, "step 0+" + number + ":1=" + number));
            Checks.due("7:1=7", Shows.written(show, 0));
        }
        for (String start : new String[] {"jet ", "open 0=", "pump ", "step 0+", "step 0+1:0=", "play 0+", "pass "}) {
            String rest = start.equals("step 0+") ? ":0=1" : "";
            malformed(start + rest, start.length());
            malformed(start + "0001" + rest, start.length() + 3);
            malformed(start + "9999" + rest, start.length() + 3);
            String answer = Shows.run(new FountainShow(), start + "999" + rest);
            Checks.due(Checks.thrown(UNSUPPORTED), answer);
            Checks.due(Checks.thrown(UNSUPPORTED), Shows.run(new FountainShow(), start + "999" + rest + ";trim"));
        }
        malformed("open 10=1", 6);
        malformed("step 10+1:1=1", 6);
        malformed("step 1+1:10=1", 10);
        malformed("play 10+1", 6);
        malformed("wind +10", 7);
        malformed("wind -09", 7);
    }

    private static void malformed(String text, int position) {
        FountainShow show = new FountainShow();
        String answer = Shows.run(show, text);
        String at = Checks.outcome(show, FountainShow::errorPosition);
        Checks.due(text + ": " + Checks.thrown(ARGUMENT) + " at " + position, text + ": " + answer + " at " + at);
    }

    /** All that differ by one sign from a well-formed text stand in TextFormTest. */
    private static void malformedTexts() {
        String[] texts = {"", " ", "jet", "jet1", "jet 1 ", " jet 1", "jet +1", "jet -1", "jet 1.0", "open 1", "open 1 =2", "open a=2",
            "pump", "pump x", "wind 9", "wind + 9", "wind +-9", "wind", "trims", "trim 1", "figure 1", "figures", "step 0+1", "step 0+1:0",
            "step 0-1:0=1", "step 0+1;0=1", "play 0", "play 0-1", "play 0+", "pass", "pass -1", "undo", "save", "trim; trim", "trim ;trim"};
        for (String text : texts) {
            Checks.due(text + " " + Checks.thrown(ARGUMENT), text + " " + Shows.run(new FountainShow(), text));
            Checks.due(Checks.thrown(ARGUMENT), Shows.run(new FountainShow(), "trim;" + text));
            Checks.due(Checks.thrown(ARGUMENT), Shows.run(new FountainShow(), text + ";trim"));
        }
    }

    private static void errorPositions() {
        malformed("", 0);
        malformed("x", 0);
        malformed("trim;", 5);
        malformed("trim;x", 5);
        malformed("trim;trix", 8);
        malformed("trim;tri", 8);
        // Three keywords begin with p: the position is where none of them goes on.
        malformed("p", 1);
        malformed("pt", 1);
        malformed("pa", 2);
        malformed("pas ", 3);
        malformed("pals", 2);
        malformed("pus", 2);
        malformed("plus", 2);
        // A number may end or go on, but not be left out.
        malformed("jet 1x", 5);
        malformed("jet 12x", 6);
        malformed("jet 123x", 7);
        malformed("jet 1234", 7);
        malformed("jet x", 4);
        // A number too great for the call is still well-formed; the error further on is found first.
        malformed("jet 999;y", 8);
        malformed("pass 0;trim;z", 12);
        malformed("trim;trim;trim;trim;trim;trim;trim;trim;trim;trim;trim;trim;", 60);
        malformed("trim;trim;trim;trim;trim;trim;trim;trim;trim;trim;trim;trim ", 59);
    }

    private static void letterByLetter() {
        String[] keywords = {"jet 1", "open 0=1", "pump 1", "wind +1", "trim", "figure", "step 0+1:0=1", "play 0+1", "pass 1"};
        for (String text : keywords) {
            for (int index = 0; index < text.length(); index++) {
                char letter = text.charAt(index);
                if (Character.isLetter(letter)) {
                    malformed(text.substring(0, index) + Character.toUpperCase(letter) + text.substring(index + 1), index);
                    malformed(text.substring(0, index) + (char) (letter + 256) + text.substring(index + 1), index);
                }
            }
        }
        malformed("f\u0131gure", 1);
        malformed("TRIM", 0);
        malformed("jet\t1", 3);
        malformed("jet\u00a01", 3);
    }

    // Undo.

    private static void undo() {
        Checks.sentence("A successful call of addJet, removeJet, setOpening, setCapacity, setWind, trim, addFigure, removeFigure, addStep,"
                + " removeStep, play, cancel, pass or execute is a change.", TermsTest::changes);
        Checks.sentence("At most the latest 8 changes that are not undone can be undone.", TermsTest::eightChanges);
        Checks.sentence("The input buffer, the output, the error position and the failed command are affected neither by undo nor by"
                + " saving.", TermsTest::notAffected);
    }

    private static Map<String, Checks.Call> allChanges() {
        Map<String, Checks.Call> changes = new LinkedHashMap<>();
        changes.put("addJet", show -> show.addJet(50));
        changes.put("removeJet", show -> show.removeJet(1));
        changes.put("setOpening", show -> show.setOpening(0, 2));
        changes.put("setCapacity", show -> show.setCapacity(3));
        changes.put("setWind", show -> show.setWind(9));
        changes.put("trim", FountainShow::trim);
        changes.put("addFigure", FountainShow::addFigure);
        changes.put("removeFigure", show -> show.removeFigure(2));
        changes.put("addStep", show -> show.addStep(1, 1, 1, 1));
        changes.put("removeStep", show -> show.removeStep(0, 1));
        changes.put("play", show -> show.play(2, 1));
        changes.put("cancel", show -> show.cancel(0));
        changes.put("pass", show -> show.pass(7));
        changes.put("execute", FountainShow::execute);
        return changes;
    }

    private static void changes() {
        String before = Looks.state(Shows.usual());
        for (Map.Entry<String, Checks.Call> change : allChanges().entrySet()) {
            FountainShow show = Shows.usual();
            Checks.due(2, show.undoCount());
            change.getValue().on(show);
            Checks.due(change.getKey() + " 3", change.getKey() + " " + show.undoCount());
            show.undo();
            Checks.due(change.getKey() + " " + before, change.getKey() + " " + Looks.state(show));
            Checks.due(2, show.undoCount());
        }
        // Changes that leave everything as it was are changes all the same.
        FountainShow same = Shows.jets(5);
        same.setOpening(0, 0);
        same.setCapacity(40);
        same.setWind(0);
        same.trim();
        Shows.run(same, "trim;pump 40");
        Checks.due(6, same.undoCount());
        otherCallsAreNone();
    }

    private static void otherCallsAreNone() {
        List<Checks.Call> calls = List.of(FountainShow::jetCount, show -> show.position(0), show -> show.opening(0), show -> show.height(0),
                show -> show.landing(0), show -> show.isWild(0), FountainShow::wildCount, FountainShow::highestJet,
                show -> show.jetByPosition(0), show -> show.nearestLanding(0), FountainShow::crossings, FountainShow::crossingsByMerging,
                FountainShow::capacity, FountainShow::wind, FountainShow::demand, FountainShow::supply, FountainShow::pumped,
                FountainShow::shortage, FountainShow::figureCount, show -> show.stepCount(0), show -> show.stepDelay(0, 0),
                show -> show.stepJet(0, 0), show -> show.stepOpening(0, 0), show -> show.figureLength(0), show -> show.figuresUsing(0),
                FountainShow::beat, FountainShow::queueLength, show -> show.entryFigure(0), show -> show.entryStart(0),
                FountainShow::beatsUntilEmpty, show -> show.demandAfter(40), show -> show.demandAfterBySteps(40),
                show -> show.firstOverload(40), FountainShow::meanOpening, FountainShow::supplyFraction, show -> show.outputCharacter(0),
                FountainShow::isConsistent, FountainShow::errorPosition, FountainShow::failedCommand, FountainShow::undoCount);
        for (Supplier<FountainShow> made : Shows.ALL) {
            for (Checks.Call call : calls) {
                Checks.unchanged(made, call);
            }
        }
        for (Checks.Call call : List.<Checks.Call>of(show -> show.writeFigure(1), show -> show.feed('x'), FountainShow::save)) {
            FountainShow show = Shows.usual();
            call.on(show);
            Checks.due(2, show.undoCount());
            Checks.due(Looks.state(Shows.usual()), Looks.state(show));
        }
    }

    private static void eightChanges() {
        for (int made = 0; made <= 20; made++) {
            FountainShow show = new FountainShow();
            for (int change = 1; change <= made; change++) {
                show.setCapacity(change);
                Checks.due(Math.min(change, 8), show.undoCount());
            }
            int left = Math.min(made, 8);
            for (int undone = 1; undone <= left; undone++) {
                Checks.due(left - undone, show.undo());
                Checks.due(made == undone ? 40 : made - undone, show.capacity());
            }
            Checks.due(Checks.thrown(STATE), Checks.outcome(show, FountainShow::undo));
        }
        // A change that was undone is gone, and new ones take its place.
        FountainShow show = new FountainShow();
        for (int capacity = 1; capacity <= 8; capacity++) {
            show.setCapacity(capacity);
        }
        show.undo();
        show.undo();
        show.setCapacity(70);
        Checks.due(7, show.undoCount());
        show.setCapacity(80);
        show.setCapacity(90);
        Checks.due(8, show.undoCount());
        int[] back = {80, 70, 6, 5, 4, 3, 2, 1};
        for (int capacity : back) {
            show.undo();
            Checks.due(capacity, show.capacity());
        }
        Checks.due(0, show.undoCount());
        Checks.due(Checks.thrown(STATE), Checks.outcome(show, FountainShow::undo));
    }

    private static void notAffected() {
        List<Checks.Call> calls = List.of(FountainShow::undo, FountainShow::save, FountainShow::restore);
        for (Checks.Call call : calls) {
            for (Supplier<FountainShow> made : List.<Supplier<FountainShow>>of(Shows::usual, Shows::full)) {
                Map<String, String> before = Looks.at(made);
                Map<String, String> after = Looks.at(Checks.after(made, call));
                for (String name : List.of(Looks.OUTPUT, Looks.ERROR_POSITION, Looks.FAILED_COMMAND, Looks.TEXT_LENGTH)) {
                    Checks.due(before.get(name), after.get(name));
                }
            }
        }
        // What was fed, written and kept since the change or the saving stays too.
        FountainShow show = Shows.usual("");
        show.save();
        show.setCapacity(5);
        Shows.run(show, "trim;trim;pass 0");
        Shows.run(show, "trim;trimm");
        show.writeFigure(1);
        Shows.feed(show, "pump 77");
        show.undo();
        show.restore();
        Checks.due("2 9 2:1=8", show.failedCommand() + " " + show.errorPosition() + " " + Looks.output(show).substring(0, 5));
        Checks.due(20, show.capacity());
        Checks.due(1, show.execute());
        Checks.due(77, show.capacity());
        // An undone text does not come back into the buffer, and an undone removal does not rewrite the output.
        show.undo();
        Checks.due(1, show.feed('x'));
    }

    // Exceptions.

    private static void exceptions() {
        Checks.sentence("A call that throws an exception changes nothing, unless its description says otherwise.", TermsTest::nothingChanges);
        Checks.sentence("If several conditions for exceptions hold, the one that is listed first decides.", TermsTest::firstListed);
    }

    /** Every exception of every call, once; RefusalsTest does the same for each of its refused calls. */
    private static void nothingChanges() {
        List<Checks.Call> calls = List.of(show -> show.addJet(-1), show -> show.addJet(40), show -> show.removeJet(10),
                show -> show.setOpening(10, 1), show -> show.setOpening(0, 11), show -> show.position(10), show -> show.opening(-1),
                show -> show.height(10), show -> show.landing(10), show -> show.isWild(10), show -> show.jetByPosition(10),
                show -> show.setCapacity(101), show -> show.setWind(10), show -> show.removeFigure(0), show -> show.removeFigure(5),
                show -> show.addStep(5, 0, 0, 0), show -> show.addStep(0, 21, 0, 0), show -> show.removeStep(0, 8),
                show -> show.stepCount(5), show -> show.stepDelay(0, 8), show -> show.stepJet(0, 8), show -> show.stepOpening(0, 8),
                show -> show.figureLength(5), show -> show.figuresUsing(10), show -> show.play(5, 1), show -> show.play(0, 31),
                show -> show.cancel(6), show -> show.pass(0), show -> show.pass(41), show -> show.entryFigure(6), show -> show.entryStart(6),
                show -> show.demandAfter(41), show -> show.demandAfterBySteps(41), show -> show.firstOverload(41),
                show -> show.writeFigure(5), show -> show.outputCharacter(63));
        for (Checks.Call call : calls) {
            Checks.due(true, Checks.outcome(Shows.usual(), call).startsWith("throws "));
            Checks.unchanged(Shows::usual, call);
            Checks.unchanged(Shows::full, call);
        }
        for (Checks.Call call : List.<Checks.Call>of(show -> show.addJet(1), FountainShow::addFigure, show -> show.addStep(0, 0, 0, 0),
                show -> show.play(0, 1), show -> show.feed('x'))) {
            Checks.refused(STATE, Shows::full, call);
        }
        for (Checks.Call call : List.<Checks.Call>of(FountainShow::highestJet, show -> show.nearestLanding(0), FountainShow::errorPosition,
                FountainShow::failedCommand, show -> show.firstOverload(40))) {
            Checks.refused(MISSING, FountainShow::new, call);
        }
        Checks.refused(STATE, FountainShow::new, FountainShow::undo);
        Checks.refused(STATE, FountainShow::new, FountainShow::restore);
        Checks.refused(ArithmeticException.class, FountainShow::new, FountainShow::meanOpening);
        Checks.refused(ArithmeticException.class, FountainShow::new, FountainShow::supplyFraction);
    }

    private static void firstListed() {
        // addJet: the position's bounds, then its being taken, then the number of jets.
        Checks.refused(ARGUMENT, Shows::full, show -> show.addJet(100));
        Checks.refused(ARGUMENT, Shows::full, show -> show.addJet(-1));
        Checks.refused(UNSUPPORTED, Shows::full, show -> show.addJet(90));
        Checks.refused(UNSUPPORTED, Shows::full, show -> show.addJet(45));
        // setOpening: the jet, then the opening.
        Checks.refused(INDEX, Shows::usual, show -> show.setOpening(3, 11));
        Checks.refused(INDEX, Shows::usual, show -> show.setOpening(-1, -1));
        // addStep: the figure and the jet, then delay and opening, then the number of steps.
        Checks.refused(INDEX, Shows::full, show -> show.addStep(5, 21, 9, 10));
        Checks.refused(INDEX, Shows::full, show -> show.addStep(4, 20, 10, 11));
        Checks.refused(INDEX, Shows::full, show -> show.addStep(0, 0, 10, 0));
        Checks.refused(INDEX, Shows::full, show -> show.addStep(0, 21, -1, -1));
        Checks.refused(ARGUMENT, Shows::full, show -> show.addStep(0, 21, 0, 0));
        Checks.refused(ARGUMENT, Shows::full, show -> show.addStep(0, 0, 0, 11));
        Checks.refused(ARGUMENT, Shows::full, show -> show.addStep(4, -1, 9, -1));
        // play: the figure, then the wait, then the number of entries.
        Checks.refused(INDEX, Shows::full, show -> show.play(5, 1));
        Checks.refused(INDEX, Shows::full, show -> show.play(-1, 0));
        Checks.refused(INDEX, Shows::usual, show -> show.play(3, 31));
        Checks.refused(ARGUMENT, Shows::full, show -> show.play(4, 0));
        Checks.refused(ARGUMENT, Shows::full, show -> show.play(0, 31));
        // firstOverload: the number of beats, then that there is no overload.
        Checks.refused(ARGUMENT, FountainShow::new, show -> show.firstOverload(-1));
        Checks.refused(ARGUMENT, FountainShow::new, show -> show.firstOverload(41));
        // execute: the form of the whole text, then its commands; nothing is kept as the failed command.
        Supplier<FountainShow> both = () -> Shows.feed(new FountainShow(), "jet 100;pass 0;x");
        Checks.due(Checks.thrown(ARGUMENT), Checks.outcome(both.get(), FountainShow::execute));
        FountainShow show = Checks.after(both, FountainShow::execute).get();
        Checks.due("15", Checks.outcome(show, FountainShow::errorPosition));
        Checks.due(Checks.thrown(MISSING), Checks.outcome(show, FountainShow::failedCommand));
    }
}
