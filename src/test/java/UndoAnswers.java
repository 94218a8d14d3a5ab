/** What calls answer, of undo and the saved state: promises 57 to 60. */
final class UndoAnswers {
    private UndoAnswers() {
    }

    static void test() {
        undoAndSaved();
    }

    private static void undoAndSaved() {
        Checks.promise(57, "Undoes the latest change that is not undone.", UndoAnswers::undoesTheLatest);
        Checks.promise(57, "Returns the number of changes that can still be undone.", UndoAnswers::stillUndone);
        Checks.promise(58, "Returns the number of changes that can be undone.", UndoAnswers::numberOfChanges);
        Checks.promise(58, "Returns the number of changes, at most 8.", UndoAnswers::atMostEightChanges);
        Checks.promise(59, "Saves everything that changes can change, in place of what was saved before.", UndoAnswers::savesEverything);
        Checks.promise(59, "Returns the number of jets.", UndoAnswers::savedJets);
        Checks.promise(60, "Restores what was saved last, which stays saved.", UndoAnswers::staysSaved);
        Checks.promise(60, "Afterwards no change can be undone.", UndoAnswers::nothingToUndoAfterwards);
        Checks.promise(60, "Returns the number of jets.", UndoAnswers::restoredJets);
    }

    private static void undoesTheLatest() {
        FountainShow show = Shows.full();
        String[] states = new String[9];
        FountainShow anew = Shows.full();
        for (int change = 8; change > 0; change--) {
            states[change] = Looks.state(anew);
            anew.undo();
        }
        states[0] = Looks.state(anew);
        show.undo();
        Checks.due(states[7], Looks.state(show));
        // A new change after an undo comes in its place.
        show.setCapacity(0);
        show.undo();
        Checks.due(states[7], Looks.state(show));
        for (int change = 6; change >= 0; change--) {
            show.undo();
            Checks.due(states[change], Looks.state(show));
        }
    }

    private static void stillUndone() {
        FountainShow full = Shows.full();
        for (int left = 7; left >= 0; left--) {
            Checks.due(left, full.undo());
        }
        FountainShow usual = Shows.usual();
        Checks.due("1 0", usual.undo() + " " + usual.undo());
        usual.trim();
        Checks.due(0, usual.undo());
    }

    private static void numberOfChanges() {
        Checks.due(0, new FountainShow().undoCount());
        Checks.due(2, Shows.usual().undoCount());
        FountainShow show = Shows.jets(5);
        Checks.due(1, show.undoCount());
        Checks.outcome(show, s -> s.addJet(5));
        Checks.due(1, show.undoCount());
        show.undo();
        Checks.due(0, show.undoCount());
        Checks.outcome(show, FountainShow::undo);
        Checks.due(0, show.undoCount());
    }

    private static void atMostEightChanges() {
        FountainShow show = new FountainShow();
        for (int change = 1; change <= 30; change++) {
            show.trim();
            Checks.due(Math.min(change, 8), show.undoCount());
        }
        Checks.due(8, Shows.full().undoCount());
    }

    private static void savesEverything() {
        FountainShow show = Shows.full("");
        String first = Looks.state(show);
        show.save();
        emptied(show);
        show.restore();
        Checks.due(first, Looks.state(show));
        // The second saving takes the place of the first.
        emptied(show);
        String second = Looks.state(show);
        show.save();
        show.addJet(5);
        show.addFigure();
        show.setWind(8);
        show.restore();
        Checks.due(second, Looks.state(show));
        // A saved state is a copy: neither later changes nor undo reach it.
        FountainShow kept = Shows.jets(5);
        kept.save();
        kept.setOpening(0, 9);
        kept.undo();
        kept.undo();
        Checks.due(0, kept.jetCount());
        kept.restore();
        Checks.due("1 0", kept.jetCount() + " " + kept.opening(0));
    }

    private static void emptied(FountainShow show) {
        show.pass(40);
        show.pass(40);
        show.setCapacity(1);
        show.setWind(-9);
        for (int figure = show.figureCount() - 1; figure >= 0; figure--) {
            show.removeFigure(figure);
        }
        for (int jet = show.jetCount() - 1; jet >= 0; jet--) {
            show.removeJet(jet);
        }
    }

    private static void savedJets() {
        Checks.due(0, new FountainShow().save());
        Checks.due("3 10", Shows.usual().save() + " " + Shows.full().save());
    }

    private static void staysSaved() {
        FountainShow show = Shows.usual("");
        show.save();
        String saved = Looks.state(show);
        for (int round = 0; round < 3; round++) {
            show.setCapacity(round);
            show.removeJet(0);
            show.pass(40);
            show.restore();
            Checks.due(saved, Looks.state(show));
        }
        FountainShow empty = new FountainShow();
        empty.save();
        empty.addJet(5);
        empty.addFigure();
        empty.restore();
        Checks.due(Looks.state(new FountainShow()), Looks.state(empty));
    }

    private static void nothingToUndoAfterwards() {
        FountainShow show = Shows.full();
        show.restore();
        Checks.due(0, show.undoCount());
        Checks.due("throws java.lang.IllegalStateException", Checks.outcome(show, FountainShow::undo));
        show.setCapacity(5);
        Checks.due("1 0", show.undoCount() + " " + show.undo());
        Checks.due(70, show.capacity());
        for (int change = 0; change < 9; change++) {
            show.setCapacity(change);
        }
        Checks.due(8, show.undoCount());
        for (int change = 7; change >= 0; change--) {
            show.undo();
            Checks.due(change, show.capacity());
        }
    }

    private static void restoredJets() {
        Checks.due("3 10", Shows.usual().restore() + " " + Shows.full().restore());
        FountainShow show = new FountainShow();
        show.save();
        show.addJet(5);
        Checks.due(0, show.restore());
        show.addJet(5);
        show.save();
        show.removeJet(0);
        Checks.due(1, show.restore());
    }
}
