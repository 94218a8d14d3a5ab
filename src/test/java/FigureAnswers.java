/** What calls answer, of the figures and their steps: promises 26 to 36. */
final class FigureAnswers {
    private FigureAnswers() {
    }

    static void test() {
        figures();
        steps();
    }

    // Figures.

    private static void figures() {
        Checks.promise(26, "Adds a figure without steps.", FigureAnswers::addedFigureIsEmpty);
        Checks.promise(26, "Returns the index of the figure.", FigureAnswers::indexOfAddedFigure);
        Checks.promise(27, "Removes a figure.", FigureAnswers::removesFigure);
        Checks.promise(27, "Returns the number of its steps.", FigureAnswers::stepsOfRemovedFigure);
        Checks.promise(30, "Returns the number of figures.", FigureAnswers::numberOfFigures);
        Checks.promise(35, "Returns the length of a figure: its greatest delay, 0 for a figure without steps.", FigureAnswers::greatestDelay);
        Checks.promise(35, "Returns the length in beats.", FigureAnswers::lengthAfterRemovals);
        Checks.promise(36, "Returns the number of figures that have a step for a jet.", FigureAnswers::figuresWithStepForJet);
        Checks.promise(36, "Returns the number of figures.", FigureAnswers::allOrNoneUsing);
    }

    private static void addedFigureIsEmpty() {
        FountainShow show = Shows.full();
        for (int removed = 0; removed < 2; removed++) {
            show.removeFigure(3);
        }
        for (int figure = 3; figure < 5; figure++) {
            show.addFigure();
            Checks.due(0, show.stepCount(figure));
            Checks.due(0, show.figureLength(figure));
            Checks.due(0, show.writeFigure(figure));
        }
    }

    private static void indexOfAddedFigure() {
        FountainShow show = new FountainShow();
        for (int figure = 0; figure < 5; figure++) {
            Checks.due(figure, show.addFigure());
        }
        show.removeFigure(0);
        Checks.due(4, show.addFigure());
        show.removeFigure(4);
        show.removeFigure(2);
        Checks.due(3, show.addFigure());
    }

    private static void removesFigure() {
        FountainShow show = Shows.usual();
        show.addStep(2, 9, 0, 9);
        show.cancel(0);
        show.removeFigure(0);
        Checks.due("2:1=8", Shows.written(show, 0));
        Checks.due("9:0=9", Shows.written(show, 1));
        Checks.due(0, show.entryFigure(0));
        show.removeFigure(1);
        show.cancel(0);
        show.removeFigure(0);
        Checks.due(0, show.figureCount());
    }

    private static void stepsOfRemovedFigure() {
        Checks.due(0, Shows.figures(1).removeFigure(0));
        Checks.due(0, Shows.usual().removeFigure(2));
        Checks.due(8, Shows.full().removeFigure(4));
        Checks.due(8, Shows.full().removeFigure(3));
        FountainShow show = Shows.usual();
        show.cancel(1);
        Checks.due(1, show.removeFigure(1));
        show.cancel(0);
        Checks.due(3, show.removeFigure(0));
    }

    private static void numberOfFigures() {
        FountainShow show = new FountainShow();
        for (int count = 0; count < 5; count++) {
            Checks.due(count, show.figureCount());
            show.addFigure();
        }
        Checks.due(5, show.figureCount());
        Checks.outcome(show, FountainShow::addFigure);
        Checks.due(5, show.figureCount());
        for (int count = 4; count >= 0; count--) {
            show.removeFigure(count);
            Checks.due(count, show.figureCount());
        }
    }

    private static void greatestDelay() {
        FountainShow show = Shows.jets(5);
        show.addFigure();
        show.addFigure();
        Checks.due(0, show.figureLength(0));
        show.addStep(0, 0, 0, 0);
        Checks.due(0, show.figureLength(0));
        show.addStep(0, 20, 0, 0);
        show.addStep(0, 19, 0, 0);
        Checks.due(20, show.figureLength(0));
        Checks.due(0, show.figureLength(1));
        FountainShow full = Shows.full();
        Checks.due("14 15 16 17 20", full.figureLength(0) + " " + full.figureLength(1) + " " + full.figureLength(2) + " "
                + full.figureLength(3) + " " + full.figureLength(4));
    }

    private static void lengthAfterRemovals() {
        FountainShow show = Shows.full();
        show.removeStep(0, 7);
        Checks.due(12, show.figureLength(0));
        show.removeStep(0, 0);
        Checks.due(12, show.figureLength(0));
        show.removeJet(6);
        Checks.due(10, show.figureLength(0));
        show.removeFigure(3);
        Checks.due(20, show.figureLength(3));
        FountainShow one = Shows.usual();
        one.removeStep(1, 0);
        Checks.due(0, one.figureLength(1));
    }

    private static void figuresWithStepForJet() {
        FountainShow show = Shows.usual();
        Checks.due("1 2 1", show.figuresUsing(0) + " " + show.figuresUsing(1) + " " + show.figuresUsing(2));
        show.addStep(0, 1, 1, 1);
        Checks.due(2, show.figuresUsing(1));
        show.addStep(2, 1, 1, 1);
        Checks.due(3, show.figuresUsing(1));
        show.removeStep(2, 0);
        Checks.due(2, show.figuresUsing(1));
        show.removeJet(0);
        Checks.due("2 1", show.figuresUsing(0) + " " + show.figuresUsing(1));
    }

    private static void allOrNoneUsing() {
        FountainShow show = Shows.jets(0, 1, 2, 3, 4, 5, 6, 7, 8, 9);
        Checks.due(0, show.figuresUsing(9));
        for (int figure = 0; figure < 5; figure++) {
            show.addFigure();
            for (int step = 0; step < 8; step++) {
                show.addStep(figure, 0, step == 7 ? 9 : 8, 0);
            }
            Checks.due(figure + 1, show.figuresUsing(9));
            Checks.due(figure + 1, show.figuresUsing(8));
            Checks.due(0, show.figuresUsing(0));
        }
        // The steps of a figure that was removed do not count.
        show.removeFigure(4);
        Checks.due(4, show.figuresUsing(9));
    }

    // Steps.

    private static void steps() {
        Checks.promise(28, "Adds a step at the end of the steps of a figure.", FigureAnswers::addsStepAtTheEnd);
        Checks.promise(28, "Returns the number of steps of the figure afterwards.", FigureAnswers::stepsAfterAdding);
        Checks.promise(29, "Removes a step of a figure; the later steps move up.", FigureAnswers::laterStepsMoveUp);
        Checks.promise(29, "Returns the number of steps of the figure afterwards.", FigureAnswers::stepsAfterRemoval);
        Checks.promise(31, "Returns the number of steps of a figure.", FigureAnswers::numberOfSteps);
        Checks.promise(31, "Returns the number of steps.", FigureAnswers::numberOfStepsAfterJets);
        Checks.promise(32, "Returns the delay of a step.", FigureAnswers::delays);
        Checks.promise(32, "Returns the delay.", FigureAnswers::delays);
        Checks.promise(33, "Returns the jet of a step.", FigureAnswers::stepJets);
        Checks.promise(33, "Returns the index of the jet.", FigureAnswers::stepJetsAfterRemoval);
        Checks.promise(34, "Returns the opening of a step.", FigureAnswers::stepOpenings);
        Checks.promise(34, "Returns the opening.", FigureAnswers::stepOpenings);
    }

    private static void addsStepAtTheEnd() {
        FountainShow show = Shows.usual();
        show.addStep(0, 20, 2, 10);
        Checks.due("0:0=3 4:2=10 4:1=0 20:2=10", Shows.written(show, 0));
        show.addStep(0, 0, 0, 0);
        Checks.due("0:0=3 4:2=10 4:1=0 20:2=10 0:0=0", Shows.written(show, 0));
        Checks.due("2:1=8", Shows.written(show, 1));
        show.removeStep(0, 4);
        show.addStep(0, 1, 1, 1);
        Checks.due("0:0=3 4:2=10 4:1=0 20:2=10 1:1=1", Shows.written(show, 0));
    }

    private static void stepsAfterAdding() {
        FountainShow show = Shows.jets(5);
        for (int figure = 0; figure < 5; figure++) {
            show.addFigure();
            for (int step = 1; step <= 8; step++) {
                Checks.due(step, show.addStep(figure, 0, 0, 0));
            }
        }
    }

    private static void laterStepsMoveUp() {
        for (int removed = 0; removed < 8; removed++) {
            FountainShow show = Shows.full();
            String next = Shows.written(show, 1);
            StringBuilder want = new StringBuilder();
            for (int step = 0; step < 8; step++) {
                if (step != removed) {
                    want.append(want.length() == 0 ? "" : " ").append(2 * step).append(':').append(step).append('=').append(step);
                }
            }
            show.removeStep(0, removed);
            Checks.due(want.toString(), Shows.written(show, 0));
            Checks.due(next, Shows.written(show, 1));
        }
    }

    private static void stepsAfterRemoval() {
        FountainShow show = Shows.full();
        for (int left = 7; left >= 0; left--) {
            Checks.due(left, show.removeStep(4, left % 2 == 0 ? 0 : left));
        }
        for (int left = 7; left >= 0; left--) {
            Checks.due(left, show.removeStep(0, 0));
        }
        Checks.due(8, show.stepCount(1));
    }

    private static void numberOfSteps() {
        FountainShow show = Shows.usual();
        Checks.due("3 1 0", show.stepCount(0) + " " + show.stepCount(1) + " " + show.stepCount(2));
        FountainShow full = Shows.full();
        Checks.due("8 8", full.stepCount(0) + " " + full.stepCount(4));
        full.removeFigure(3);
        full.addFigure();
        Checks.due("8 0", full.stepCount(3) + " " + full.stepCount(4));
    }

    private static void numberOfStepsAfterJets() {
        FountainShow show = Shows.usual();
        show.removeJet(1);
        Checks.due("2 0 0", show.stepCount(0) + " " + show.stepCount(1) + " " + show.stepCount(2));
        show.undo();
        Checks.due("3 1 0", show.stepCount(0) + " " + show.stepCount(1) + " " + show.stepCount(2));
    }

    private static void delays() {
        FountainShow show = Shows.full();
        for (int step = 0; step < 8; step++) {
            Checks.due(2 * step, show.stepDelay(0, step));
            Checks.due(2 * step + 3, show.stepDelay(3, step));
            Checks.due(20, show.stepDelay(4, step));
        }
    }

    private static void stepJets() {
        FountainShow show = Shows.full();
        for (int step = 0; step < 8; step++) {
            Checks.due(step, show.stepJet(0, step));
            Checks.due((step + 8) % 10, show.stepJet(4, step));
        }
    }

    private static void stepJetsAfterRemoval() {
        FountainShow show = Shows.usual();
        Checks.due("0 2 1", show.stepJet(0, 0) + " " + show.stepJet(0, 1) + " " + show.stepJet(0, 2));
        show.removeJet(0);
        Checks.due("1 0", show.stepJet(0, 0) + " " + show.stepJet(0, 1));
        FountainShow last = Shows.usual();
        last.removeJet(2);
        Checks.due("0 1", last.stepJet(0, 0) + " " + last.stepJet(0, 1));
    }

    private static void stepOpenings() {
        FountainShow show = Shows.full();
        for (int step = 0; step < 8; step++) {
            Checks.due(step, show.stepOpening(0, step));
            Checks.due(10, show.stepOpening(4, step));
        }
        Checks.due(0, Shows.usual().stepOpening(0, 2));
    }
}
