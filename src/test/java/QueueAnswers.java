import java.util.List;
import java.util.Map;
import java.util.function.Supplier;

/** What calls answer, of the queue, the beats and the forecasts: promises 37 to 47. */
final class QueueAnswers {
    private QueueAnswers() {
    }

    static void test() {
        queue();
        forecasts();
    }

    // Queue and beats.

    private static void queue() {
        Checks.promise(37, "Adds an entry at the end of the queue.", QueueAnswers::addsEntryAtTheEnd);
        Checks.promise(37, "Returns the start beat of the entry, which is the current beat plus wait.", QueueAnswers::startIsBeatPlusWait);
        Checks.promise(38, "Removes an entry from the queue.", QueueAnswers::removesEntry);
        Checks.promise(38, "Returns the start beat of the entry.", QueueAnswers::startOfRemovedEntry);
        Checks.promise(39, "Lets beats pass.", QueueAnswers::letsBeatsPass);
        Checks.promise(39, "Returns the number of entries that are finished.", QueueAnswers::numberOfFinished);
        Checks.promise(40, "Returns the current beat.", QueueAnswers::currentBeat);
        Checks.promise(41, "Returns the number of entries of the queue.", QueueAnswers::numberOfEntries);
        Checks.promise(41, "Returns the number of entries.", QueueAnswers::numberOfEntries);
        Checks.promise(42, "Returns the figure of an entry.", QueueAnswers::entryFigures);
        Checks.promise(42, "Returns the index of the figure.", QueueAnswers::entryFiguresAfterRemoval);
        Checks.promise(43, "Returns the start beat of an entry.", QueueAnswers::entryStarts);
        Checks.promise(43, "Returns the start beat.", QueueAnswers::entryStarts);
        Checks.promise(44, "Returns the number of beats until the queue is empty if only beats pass.", QueueAnswers::untilEmpty);
        Checks.promise(44, "Returns the number of beats, 0 if it is empty.", QueueAnswers::noneUntilEmpty);
    }

    private static String entries(FountainShow show) {
        StringBuilder entries = new StringBuilder();
        for (int entry = 0; entry < show.queueLength(); entry++) {
            entries.append(entry == 0 ? "" : " ").append(show.entryFigure(entry)).append('+').append(show.entryStart(entry));
        }
        return entries.toString();
    }

    private static void addsEntryAtTheEnd() {
        FountainShow show = Shows.figures(5);
        show.play(4, 30);
        show.play(0, 1);
        show.play(4, 30);
        Checks.due("4+30 0+1 4+30", entries(show));
        show.cancel(1);
        show.play(2, 2);
        Checks.due("4+30 4+30 2+2", entries(show));
        Checks.due("0+32 1+27 2+22 0+17 1+12 2+7", entries(Shows.full()));
    }

    private static void startIsBeatPlusWait() {
        FountainShow show = Shows.figures(1);
        Checks.due("1 30", show.play(0, 1) + " " + show.play(0, 30));
        show.pass(40);
        Checks.due("41 70", show.play(0, 1) + " " + show.play(0, 30));
        FountainShow late = Shows.figures(1);
        for (int call = 0; call < 500; call++) {
            late.pass(40);
        }
        Checks.due("20001 20030", late.play(0, 1) + " " + late.play(0, 30));
    }

    private static void removesEntry() {
        for (int removed = 0; removed < 6; removed++) {
            FountainShow show = Shows.full();
            String want = entries(show).replaceFirst("(" + show.entryFigure(removed) + "\\+" + show.entryStart(removed) + " ?)", "").trim();
            show.cancel(removed);
            Checks.due(want, entries(show));
            Checks.due(5, show.queueLength());
        }
        FountainShow one = Shows.figures(1);
        one.play(0, 1);
        one.cancel(0);
        Checks.due(0, one.queueLength());
        Checks.due(0, one.pass(40));
    }

    private static void startOfRemovedEntry() {
        FountainShow show = Shows.full();
        Checks.due("32 7 22", show.cancel(0) + " " + show.cancel(4) + " " + show.cancel(1));
        Checks.due("27 17 12", show.cancel(0) + " " + show.cancel(0) + " " + show.cancel(0));
        Checks.due("1 9", Shows.usual().cancel(0) + " " + Shows.usual().cancel(1));
    }

    private static void letsBeatsPass() {
        for (int beats : new int[] {1, 2, 39, 40}) {
            FountainShow once = Shows.full();
            once.pass(beats);
            FountainShow bit = Shows.full();
            for (int beat = 0; beat < beats; beat++) {
                bit.pass(1);
            }
            Checks.due(Looks.state(bit), Looks.state(once));
            Checks.due(2 + beats, once.beat());
        }
    }

    private static void numberOfFinished() {
        Checks.due("0 0", new FountainShow().pass(1) + " " + new FountainShow().pass(40));
        FountainShow show = Shows.full();
        // Lengths 14, 15 and 16: the first entry to finish started last, in beat 7 with length 16.
        Checks.due("0 1 0", show.pass(20) + " " + show.pass(1) + " " + show.pass(3));
        Checks.due("1 4", show.pass(1) + " " + show.pass(40));
        FountainShow six = Shows.figures(1);
        for (int entry = 0; entry < 6; entry++) {
            six.play(0, 1);
        }
        Checks.due("6 0", six.pass(1) + " " + six.pass(1));
        Checks.due(2, Shows.usual().pass(40));
    }

    private static void currentBeat() {
        FountainShow show = new FountainShow();
        Checks.due(0, show.beat());
        show.pass(40);
        Checks.due(40, show.beat());
        Checks.outcome(show, s -> s.pass(41));
        Checks.due(40, show.beat());
        show.undo();
        Checks.due(0, show.beat());
        for (int call = 0; call < 500; call++) {
            show.pass(40);
        }
        Checks.due(20000, show.beat());
    }

    private static void numberOfEntries() {
        FountainShow show = Shows.figures(1);
        for (int count = 0; count < 6; count++) {
            Checks.due(count, show.queueLength());
            show.play(0, 10 + count);
        }
        Checks.due(6, show.queueLength());
        Checks.outcome(show, s -> s.play(0, 1));
        Checks.due(6, show.queueLength());
        show.pass(10);
        Checks.due(5, show.queueLength());
        show.cancel(4);
        Checks.due(4, show.queueLength());
        show.pass(40);
        Checks.due(0, show.queueLength());
    }

    private static void entryFigures() {
        FountainShow show = Shows.figures(5);
        for (int entry = 0; entry < 6; entry++) {
            show.play((4 + entry) % 5, 6 - entry);
        }
        Checks.due("4+6 0+5 1+4 2+3 3+2 4+1", entries(show));
        show.pass(2);
        Checks.due("4+6 0+5 1+4 2+3", entries(show));
    }

    private static void entryFiguresAfterRemoval() {
        FountainShow show = Shows.figures(5);
        show.play(4, 1);
        show.play(1, 2);
        show.play(3, 3);
        show.removeFigure(0);
        Checks.due("3+1 0+2 2+3", entries(show));
        show.removeFigure(1);
        Checks.due("2+1 0+2 1+3", entries(show));
    }

    private static void entryStarts() {
        FountainShow show = Shows.figures(1);
        show.play(0, 1);
        show.pass(40);
        show.play(0, 30);
        show.play(0, 1);
        Checks.due("0+70 0+41", entries(show));
        // The start stays when its beat has passed and the figure still goes on.
        show.addJet(5);
        show.addStep(0, 20, 0, 1);
        show.pass(20);
        Checks.due("0+70 0+41", entries(show));
    }

    private static void untilEmpty() {
        FountainShow show = Shows.jets(5);
        show.addFigure();
        show.addFigure();
        show.addStep(1, 20, 0, 1);
        show.play(0, 1);
        Checks.due(1, show.beatsUntilEmpty());
        show.play(0, 30);
        Checks.due(30, show.beatsUntilEmpty());
        show.play(1, 30);
        show.play(1, 1);
        Checks.due(50, show.beatsUntilEmpty());
        show.pass(40);
        Checks.due(10, show.beatsUntilEmpty());
        show.pass(9);
        Checks.due(1, show.beatsUntilEmpty());
        Checks.due(1, show.pass(1));
        Checks.due(0, show.beatsUntilEmpty());
        // The entry that starts last, in beat 32, has a figure of length 14; the current beat is 2.
        FountainShow full = Shows.full();
        Checks.due(44, full.beatsUntilEmpty());
        full.pass(40);
        full.pass(3);
        Checks.due("1 1", full.queueLength() + " " + full.beatsUntilEmpty());
        full.pass(1);
        Checks.due("0 0", full.queueLength() + " " + full.beatsUntilEmpty());
    }

    private static void noneUntilEmpty() {
        Checks.due(0, new FountainShow().beatsUntilEmpty());
        FountainShow show = Shows.figures(1);
        Checks.due(0, show.beatsUntilEmpty());
        show.play(0, 5);
        show.cancel(0);
        Checks.due(0, show.beatsUntilEmpty());
        show.play(0, 1);
        show.pass(1);
        Checks.due(0, show.beatsUntilEmpty());
        // An entry that is over, as its step is gone, is in the queue until the next beat.
        show.addJet(5);
        show.addStep(0, 9, 0, 1);
        show.play(0, 1);
        show.pass(5);
        show.removeStep(0, 0);
        Checks.due("1 1", show.queueLength() + " " + show.beatsUntilEmpty());
        show.pass(1);
        Checks.due("0 0", show.queueLength() + " " + show.beatsUntilEmpty());
    }

    // Forecasts.

    private static void forecasts() {
        Checks.promise(45, "Returns the demand after some beats if only beats pass, computed by letting them pass on a copy.",
                () -> forecasts(false));
        Checks.promise(45, "Returns the demand.", () -> forecastEnds(false));
        Checks.promise(46, "Returns the same as demandAfter, but is computed from the last step of each jet that will have happened.",
                () -> forecasts(true));
        Checks.promise(46, "Returns the demand.", () -> forecastEnds(true));
        Checks.promise(47, "Returns the first coming beat after which the demand is greater than the capacity, if only beats pass.",
                QueueAnswers::firstOverloads);
        Checks.promise(47, "Returns the number of beats until then, at least 1.", QueueAnswers::overloadAtOnce);
    }

    private static int forecast(FountainShow show, int beats, boolean bySteps) {
        return bySteps ? show.demandAfterBySteps(beats) : show.demandAfter(beats);
    }

    private static void forecasts(boolean bySteps) {
        for (Supplier<FountainShow> made : List.<Supplier<FountainShow>>of(FountainShow::new, Shows::usual, Shows::full, Shows::busy)) {
            for (int beats = 0; beats <= 40; beats++) {
                FountainShow later = made.get();
                if (beats > 0) {
                    later.pass(beats);
                }
                Checks.due(later.demand(), forecast(made.get(), beats, bySteps));
            }
        }
        Map<String, String> before = Looks.at(Shows::busy);
        Checks.same(before, Looks.at(Checks.after(Shows::busy, show -> forecast(show, 40, bySteps))));
    }

    private static void forecastEnds(boolean bySteps) {
        FountainShow show = Shows.openJets(10, 20);
        show.addFigure();
        show.addStep(0, 0, 0, 9);
        show.addStep(0, 10, 0, 8);
        show.addStep(0, 11, 0, 7);
        show.play(0, 30);
        Checks.due(20, forecast(show, 0, bySteps));
        Checks.due(20, forecast(show, 29, bySteps));
        Checks.due(19, forecast(show, 30, bySteps));
        Checks.due(19, forecast(show, 39, bySteps));
        Checks.due(18, forecast(show, 40, bySteps));
        show.pass(30);
        show.setOpening(0, 0);
        // The step of this beat has happened and does not happen again.
        Checks.due(10, forecast(show, 0, bySteps));
        Checks.due(10, forecast(show, 9, bySteps));
        Checks.due(18, forecast(show, 10, bySteps));
        Checks.due(17, forecast(show, 11, bySteps));
        Checks.due(17, forecast(show, 40, bySteps));
    }

    private static void firstOverloads() {
        for (int wait : new int[] {1, 2, 29, 30}) {
            for (int delay : new int[] {0, 1, 10}) {
                FountainShow show = Shows.jets(50);
                show.setCapacity(9);
                show.addFigure();
                show.addStep(0, delay, 0, 10);
                show.play(0, wait);
                Checks.due(wait + delay, show.firstOverload(40));
                Checks.due(wait + delay, show.firstOverload(wait + delay));
                Checks.due(0, show.beat());
            }
        }
        // The first of two, and one that is over before the last beat that is looked at.
        FountainShow show = Shows.jets(50);
        show.setCapacity(5);
        show.addFigure();
        show.addStep(0, 2, 0, 6);
        show.addStep(0, 3, 0, 5);
        show.play(0, 20);
        show.play(0, 3);
        Checks.due(5, show.firstOverload(40));
        show.cancel(1);
        Checks.due(22, show.firstOverload(40));
        // Within one beat only what it ends with counts.
        show.addStep(0, 2, 0, 5);
        Checks.due("throws java.util.NoSuchElementException", Checks.outcome(show, s -> s.firstOverload(40)));
    }

    private static void overloadAtOnce() {
        FountainShow show = Shows.openJets(50);
        show.setCapacity(9);
        Checks.due("1 1", show.firstOverload(1) + " " + show.firstOverload(40));
        show.setCapacity(0);
        Checks.due(1, show.firstOverload(40));
        show.setOpening(0, 1);
        Checks.due(1, show.firstOverload(40));
    }
}
