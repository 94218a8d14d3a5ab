import java.util.List;
import java.util.function.Supplier;

/** Shows to start from: a new one, one with some of everything, and one as full as it can be. */
final class Shows {
    static final List<Supplier<FountainShow>> ALL = List.of(FountainShow::new, Shows::usual, Shows::full);
    /** Sixty signs, well-formed, and each of its commands goes well on a full show. */
    static final String FULL_TEXT = "pump 30;wind -2;open 0=10;open 1=0;pass 2;trim;pump 050;trim";

    private Shows() {
    }

    static FountainShow jets(int... positions) {
        FountainShow show = new FountainShow();
        for (int position : positions) {
            show.addJet(position);
        }
        return show;
    }

    static FountainShow openJets(int... positions) {
        FountainShow show = jets(positions);
        for (int jet = 0; jet < positions.length; jet++) {
            show.setOpening(jet, 10);
        }
        return show;
    }

    static FountainShow figures(int count) {
        FountainShow show = new FountainShow();
        for (int figure = 0; figure < count; figure++) {
            show.addFigure();
        }
        return show;
    }

    static FountainShow feed(FountainShow show, String text) {
        for (int index = 0; index < text.length(); index++) {
            show.feed(text.charAt(index));
        }
        return show;
    }

    /** Feeds a text and executes it; the outcome is the answer or the exception. */
    static String run(FountainShow show, String text) {
        return Checks.outcome(feed(show, text), FountainShow::execute);
    }

    static String written(FountainShow show, int figure) {
        int length = show.writeFigure(figure);
        StringBuilder text = new StringBuilder();
        for (int index = 0; index < length; index++) {
            text.append(show.outputCharacter(index));
        }
        return text.toString();
    }

    static FountainShow usual() {
        return usual("pump 33;trim");
    }

    /** Three jets, three figures, two entries, two changes to undo; something saved, written and kept. */
    static FountainShow usual(String text) {
        FountainShow show = openJets(40, 7, 93);
        show.setOpening(1, 6);
        for (int figure = 0; figure < 3; figure++) {
            show.addFigure();
        }
        show.addStep(0, 0, 0, 3);
        show.addStep(0, 4, 2, 10);
        show.addStep(0, 4, 1, 0);
        show.addStep(1, 2, 1, 8);
        show.setCapacity(20);
        show.play(0, 1);
        show.play(1, 9);
        show.pass(2);
        show.writeFigure(0);
        run(show, "trim;pass 0");
        run(show, "tri");
        show.save();
        show.play(1, 30);
        show.restore();
        show.setOpening(2, 5);
        show.setWind(-4);
        show.play(1, 4);
        show.undo();
        return feed(show, text);
    }

    static FountainShow full() {
        return full(FULL_TEXT);
    }

    /** Ten jets, five figures of eight steps, six entries, eight changes to undo, the longest output. */
    static FountainShow full(String text) {
        FountainShow show = openJets(90, 81, 72, 63, 54, 9, 18, 27, 36, 45);
        for (int figure = 0; figure < 5; figure++) {
            show.addFigure();
            for (int step = 0; step < 8; step++) {
                show.addStep(figure, figure == 4 ? 20 : 2 * step + figure, (step + 2 * figure) % 10, figure == 4 ? 10 : step);
            }
        }
        show.setCapacity(70);
        show.pass(2);
        show.writeFigure(4);
        run(show, "pass 0");
        run(show, "x");
        show.save();
        show.setWind(1);
        show.setOpening(9, 3);
        for (int entry = 0; entry < 6; entry++) {
            show.play(entry % 3, 30 - 5 * entry);
        }
        return feed(show, text);
    }

    /** Several steps for the same jet in the same beat, of one entry and of several; one entry under way. */
    static FountainShow busy() {
        FountainShow show = openJets(10, 20, 30);
        for (int figure = 0; figure < 2; figure++) {
            show.addFigure();
            for (int step = 0; step < 8; step++) {
                show.addStep(figure, step * (figure + 2) / 2, step % 3, (7 * step + 3 * figure) % 11);
            }
        }
        int[] waits = {4, 5, 1, 30, 6, 5};
        for (int entry = 0; entry < 6; entry++) {
            show.play(entry % 2, waits[entry]);
        }
        show.pass(3);
        return show;
    }
}
