/**
 * A test for each sentence that says what a call of a promise does or answers: what is answered where there is
 * nothing yet, where everything is full, and at the least and the greatest values.
 */
public final class AnswersTest {
    private AnswersTest() {
    }

    public static void main(String[] args) {
        newObject();
        JetAnswers.test();
        PumpAnswers.test();
        FigureAnswers.test();
        QueueAnswers.test();
        TextAnswers.test();
        UndoAnswers.test();
        Checks.finish("answers", new Document(args).answers());
    }

    private static void newObject() {
        Checks.promise(1, "Creates a fountain without jets and figures at beat 0.", AnswersTest::nothingYet);
    }

    private static void nothingYet() {
        FountainShow show = new FountainShow();
        Checks.due(0, show.jetCount());
        Checks.due(0, show.figureCount());
        Checks.due(0, show.beat());
        Checks.due(40, show.capacity());
        Checks.due(0, show.wind());
        Checks.due(0, show.queueLength());
        Checks.due(0, show.wildCount() + show.crossings() + show.crossingsByMerging() + show.demand() + show.supply());
        Checks.due(0, show.beatsUntilEmpty() + show.demandAfter(40) + show.demandAfterBySteps(40) + show.undoCount());
        Checks.due(0L, show.pumped() + show.shortage());
        Checks.due(true, show.isConsistent());
        Checks.due(Looks.at(FountainShow::new), Looks.at(FountainShow::new));
        // Two objects share nothing.
        FountainShow other = Shows.full();
        Checks.due(0, show.jetCount());
        Checks.due(10, other.jetCount());
    }
}
