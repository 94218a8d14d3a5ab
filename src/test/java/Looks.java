import java.util.LinkedHashMap;
import java.util.Map;
import java.util.function.Supplier;

/**
 * Everything of a show that calls can tell. Some of it shows only when it is used up (what an undo brings back,
 * what is saved, what stands in the input buffer), so the show is made anew for each look; that also keeps each
 * object within the calls that the document allows it.
 */
final class Looks {
    static final String OUTPUT = "the output";
    static final String ERROR_POSITION = "the error position";
    static final String FAILED_COMMAND = "the failed command";
    static final String TEXT_LENGTH = "the text's length";

    private Looks() {
    }

    static Map<String, String> at(Supplier<FountainShow> made) {
        Map<String, String> seen = new LinkedHashMap<>();
        seen.put("the state", state(made.get()));
        lookBack(made, seen);
        seen.put("what is saved", lookBehind(made.get(), FountainShow::restore));
        seen.put("the text", lookBehind(made.get(), FountainShow::execute));
        seen.put(TEXT_LENGTH, textLength(made.get()));
        seen.put(OUTPUT, output(made.get()));
        seen.put(ERROR_POSITION, Checks.outcome(made.get(), FountainShow::errorPosition));
        seen.put(FAILED_COMMAND, Checks.outcome(made.get(), FountainShow::failedCommand));
        return seen;
    }

    private static void lookBack(Supplier<FountainShow> made, Map<String, String> seen) {
        int changes = made.get().undoCount();
        seen.put("the number of changes", "" + changes);
        for (int undone = 1; undone <= changes + 1; undone++) {
            FountainShow show = made.get();
            StringBuilder answers = new StringBuilder();
            for (int time = 0; time < undone; time++) {
                answers.append(Checks.outcome(show, FountainShow::undo)).append(' ');
            }
            seen.put("undone " + undone, answers + state(show));
        }
    }

    private static String lookBehind(FountainShow show, Checks.Call call) {
        String answer = Checks.outcome(show, call);
        return answer + ", " + show.undoCount() + " changes, " + state(show);
    }

    /** A sign that no text can go on with tells how far the text in the input buffer goes. */
    private static String textLength(FountainShow show) {
        String length = Checks.outcome(show, s -> s.feed('!'));
        String answer = Checks.outcome(show, FountainShow::execute);
        return length + ", " + answer + " at " + Checks.outcome(show, FountainShow::errorPosition);
    }

    /** Everything that changes can change. */
    static String state(FountainShow show) {
        StringBuilder seen = new StringBuilder();
        seen.append("pump ").append(show.capacity()).append(" wind ").append(show.wind());
        seen.append(" beat ").append(show.beat());
        seen.append(" pumped ").append(show.pumped()).append(" shortage ").append(show.shortage());
        seen.append(" jets");
        for (int jet = 0; jet < show.jetCount(); jet++) {
            seen.append(' ').append(show.position(jet)).append('=').append(show.opening(jet));
        }
        for (int figure = 0; figure < show.figureCount(); figure++) {
            seen.append(" figure");
            for (int step = 0; step < show.stepCount(figure); step++) {
                seen.append(' ').append(show.stepDelay(figure, step)).append(':').append(show.stepJet(figure, step));
                seen.append('=').append(show.stepOpening(figure, step));
            }
        }
        seen.append(" queue");
        for (int entry = 0; entry < show.queueLength(); entry++) {
            seen.append(' ').append(show.entryFigure(entry)).append('+').append(show.entryStart(entry));
        }
        return seen.toString();
    }

    /** The output, as far as there are characters; no output is as long as a hundred. */
    static String output(FountainShow show) {
        StringBuilder seen = new StringBuilder();
        for (int index = 0; index < 100; index++) {
            int place = index;
            String answer = Checks.outcome(show, s -> s.outputCharacter(place));
            if (answer.startsWith("throws ")) {
                return seen.append('|').append(answer).toString();
            }
            seen.append(answer);
        }
        return seen.toString();
    }
}
