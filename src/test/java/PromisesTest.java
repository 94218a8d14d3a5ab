import java.util.NoSuchElementException;

/** One method for each promise of the document: ordinary inputs, the edges that it names, wrong inputs. */
public final class PromisesTest {
    private static final Class<?> INDEX = IndexOutOfBoundsException.class;
    private static final Class<?> ARGUMENT = IllegalArgumentException.class;
    private static final Class<?> STATE = IllegalStateException.class;
    private static final Class<?> UNSUPPORTED = UnsupportedOperationException.class;
    private static final Class<?> MISSING = NoSuchElementException.class;
    private static final Class<?> ARITHMETIC = ArithmeticException.class;

    private static int wrong = 0;
    private static int promise = 0;

    private interface Call {
        Object answer();
    }

    private static void due(Object want, Object got) {
        if (!want.equals(got)) {
            wrong++;
            StackTraceElement at = new Throwable().getStackTrace()[1];
            System.out.println("promise " + promise + ", line " + at.getLineNumber() + ": answered " + got + ", due is " + want);
        }
    }

    private static void refused(Class<?> want, Call call) {
        Object got;
        try {
            got = call.answer();
        } catch (RuntimeException e) {
            got = e.getClass();
        }
        if (!want.equals(got)) {
            wrong++;
            StackTraceElement at = new Throwable().getStackTrace()[1];
            System.out.println("promise " + promise + ", line " + at.getLineNumber() + ": answered " + got + ", due is " + want);
        }
    }

    private static FountainShow feed(FountainShow show, String text) {
        for (char character : text.toCharArray()) {
            show.feed(character);
        }
        return show;
    }

    private static int run(FountainShow show, String text) {
        return feed(show, text).execute();
    }

    private static FountainShow withJets(int... positions) {
        FountainShow show = new FountainShow();
        for (int position : positions) {
            show.addJet(position);
        }
        return show;
    }

    private static FountainShow withOpenJets(int... positions) {
        FountainShow show = withJets(positions);
        for (int jet = 0; jet < positions.length; jet++) {
            show.setOpening(jet, 10);
        }
        return show;
    }

    /** As much of everything as there may be: ten jets, five figures of eight steps, six entries. */
    private static FountainShow fullShow() {
        FountainShow show = withOpenJets(9, 8, 7, 6, 5, 4, 3, 2, 1, 0);
        for (int figure = 0; figure < 5; figure++) {
            show.addFigure();
            for (int step = 0; step < 8; step++) {
                show.addStep(figure, 2 * step, step + 2, figure + step % 2);
            }
        }
        for (int entry = 0; entry < 6; entry++) {
            show.play(entry % 3, 2 * entry + 1);
        }
        return show;
    }

    private static String written(FountainShow show, int figure) {
        int length = show.writeFigure(figure);
        StringBuilder text = new StringBuilder();
        for (int index = 0; index < length; index++) {
            text.append(show.outputCharacter(index));
        }
        return text.toString();
    }

    public static void main(String[] args) {
        jets();
        pumpAndWind();
        figures();
        queue();
        rest();
        System.out.println(wrong == 0 ? "promises: all as due" : "promises: " + wrong + " not as due");
        if (wrong != 0) {
            System.exit(1);
        }
    }

    private static void jets() {
        promise = 1; newObject();
        promise = 2; addJet();
        promise = 3; removeJet();
        promise = 4; setOpening();
        promise = 5; jetCount();
        promise = 6; position();
        promise = 7; opening();
        promise = 8; height();
        promise = 9; landing();
        promise = 10; isWild();
        promise = 11; wildCount();
        promise = 12; highestJet();
        promise = 13; jetByPosition();
        promise = 14; nearestLanding();
        promise = 15; crossings();
        promise = 16; crossingsByMerging();
    }

    private static void pumpAndWind() {
        promise = 17; setCapacity();
        promise = 18; setWind();
        promise = 19; trim();
        promise = 20; capacity();
        promise = 21; wind();
        promise = 22; demand();
        promise = 23; supply();
        promise = 24; pumped();
        promise = 25; shortage();
    }

    private static void figures() {
        promise = 26; addFigure();
        promise = 27; removeFigure();
        promise = 28; addStep();
        promise = 29; removeStep();
        promise = 30; figureCount();
        promise = 31; stepCount();
        promise = 32; stepDelay();
        promise = 33; stepJet();
        promise = 34; stepOpening();
        promise = 35; figureLength();
        promise = 36; figuresUsing();
    }

    private static void queue() {
        promise = 37; play();
        promise = 38; cancel();
        promise = 39; pass();
        promise = 40; beat();
        promise = 41; queueLength();
        promise = 42; entryFigure();
        promise = 43; entryStart();
        promise = 44; beatsUntilEmpty();
        promise = 45; demandAfter();
        promise = 46; demandAfterBySteps();
        promise = 47; firstOverload();
    }

    private static void rest() {
        promise = 48; meanOpening();
        promise = 49; supplyFraction();
        promise = 50; writeFigure();
        promise = 51; outputCharacter();
        promise = 52; isConsistent();
        promise = 53; feeding();
        promise = 54; execute();
        promise = 54; executeEachCommand();
        promise = 54; executeAllOrNone();
        promise = 55; errorPosition();
        promise = 56; failedCommand();
        promise = 57; undo();
        promise = 57; undoOfEachChange();
        promise = 58; undoCount();
        promise = 59; save();
        promise = 60; restore();
    }

    private static void newObject() {
        FountainShow show = new FountainShow();
        due(0, show.jetCount());
        due(0, show.figureCount());
        due(0, show.beat());
        due(0, show.queueLength());
        due(40, show.capacity());
        due(0, show.wind());
        due(0L, show.pumped());
        due(0L, show.shortage());
        due(0, show.undoCount());
        due(1, show.feed(' '));
    }

    private static void addJet() {
        FountainShow show = new FountainShow();
        refused(ARGUMENT, () -> show.addJet(-1));
        refused(ARGUMENT, () -> show.addJet(100));
        refused(ARGUMENT, () -> show.addJet(Integer.MIN_VALUE));
        due(0, show.addJet(0));
        due(1, show.addJet(99));
        refused(UNSUPPORTED, () -> show.addJet(0));
        refused(UNSUPPORTED, () -> show.addJet(99));
        for (int jet = 2; jet < 10; jet++) {
            due(jet, show.addJet(jet));
        }
        refused(ARGUMENT, () -> show.addJet(100));
        refused(UNSUPPORTED, () -> show.addJet(5));
        refused(STATE, () -> show.addJet(50));
        due(10, show.jetCount());
        show.setOpening(9, 7);
        show.removeJet(9);
        due(9, show.addJet(9));
        due(0, show.opening(9));
    }

    private static void removeJet() {
        FountainShow show = withJets(10, 20, 30);
        show.setOpening(2, 3);
        show.addFigure();
        show.addFigure();
        show.addStep(0, 1, 1, 4);
        show.addStep(0, 2, 0, 5);
        show.addStep(0, 3, 2, 6);
        show.addStep(0, 4, 1, 7);
        show.addStep(1, 5, 1, 8);
        refused(INDEX, () -> show.removeJet(-1));
        refused(INDEX, () -> show.removeJet(3));
        due(3, show.removeJet(1));
        due(2, show.jetCount());
        due(30, show.position(1));
        due(3, show.opening(1));
        due("2:0=5 3:1=6", written(show, 0));
        due("", written(show, 1));
        due(1, show.addJet(20) - 1);
        due(0, show.removeJet(2));
        due(1, show.removeJet(0));
        due("3:0=6", written(show, 0));
        due(1, show.removeJet(0));
        refused(INDEX, () -> show.removeJet(0));
        FountainShow full = fullShow();
        due(0, full.removeJet(0));
        due(5, full.removeJet(8));
        due(0, full.removeJet(0));
        due(7, full.jetCount());
        due(1, full.position(6));
        due(7, full.position(0));
        due("0:0=4 2:1=5 4:2=4 6:3=5 8:4=4 10:5=5 12:6=4", written(full, 4));
    }

    private static void setOpening() {
        FountainShow show = withJets(10, 20);
        due(0, show.setOpening(1, 10));
        due(10, show.setOpening(1, 0));
        due(0, show.setOpening(0, 4));
        due(4, show.opening(0));
        due(0, show.opening(1));
        refused(ARGUMENT, () -> show.setOpening(0, -1));
        refused(ARGUMENT, () -> show.setOpening(0, 11));
        refused(INDEX, () -> show.setOpening(2, 11));
        refused(INDEX, () -> show.setOpening(-1, 5));
        due(4, show.opening(0));
    }

    private static void jetCount() {
        FountainShow show = withJets(1, 2, 3);
        due(3, show.jetCount());
        show.removeJet(0);
        due(2, show.jetCount());
    }

    private static void position() {
        FountainShow show = withJets(99, 0, 50);
        due(99, show.position(0));
        due(0, show.position(1));
        due(50, show.position(2));
        refused(INDEX, () -> show.position(3));
        refused(INDEX, () -> show.position(-1));
        refused(INDEX, () -> show.position(Integer.MAX_VALUE));
    }

    private static void opening() {
        FountainShow show = withJets(99, 0);
        due(0, show.opening(1));
        show.setOpening(1, 10);
        due(10, show.opening(1));
        due(0, show.opening(0));
        refused(INDEX, () -> show.opening(2));
        refused(INDEX, () -> show.opening(-1));
    }

    private static void height() {
        FountainShow show = withOpenJets(10, 20, 30, 40);
        due(100, show.height(3));
        show.setCapacity(39);
        due(97, show.height(0));
        show.setOpening(0, 3);
        show.setCapacity(32);
        due(29, show.height(0));
        due(96, show.height(1));
        show.setCapacity(0);
        due(0, show.height(1));
        refused(INDEX, () -> show.height(4));
        refused(INDEX, () -> show.height(-1));
        FountainShow closed = withJets(5);
        closed.setCapacity(0);
        due(0, closed.height(0));
        closed.setOpening(0, 1);
        due(0, closed.height(0));
    }

    private static void landing() {
        FountainShow show = withJets(10, 90);
        show.setOpening(0, 3);
        show.setOpening(1, 9);
        show.setWind(-5);
        due(3, show.landing(0));
        due(68, show.landing(1));
        show.setWind(-7);
        due(0, show.landing(0));
        due(59, show.landing(1));
        show.setWind(9);
        due(23, show.landing(0));
        due(130, show.landing(1));
        show.setOpening(0, 9);
        show.setWind(-9);
        due(-30, show.landing(0));
        refused(INDEX, () -> show.landing(2));
        refused(INDEX, () -> show.landing(-1));
    }

    private static void isWild() {
        FountainShow show = withJets(9, 90);
        show.setOpening(0, 2);
        show.setOpening(1, 2);
        show.setWind(9);
        due(99, show.landing(1));
        due(false, show.isWild(1));
        show.setWind(-9);
        due(0, show.landing(0));
        due(false, show.isWild(0));
        show.setOpening(0, 3);
        due(true, show.isWild(0));
        show.setWind(9);
        show.setOpening(1, 3);
        due(true, show.isWild(1));
        due(false, show.isWild(0));
        refused(INDEX, () -> show.isWild(2));
        refused(INDEX, () -> show.isWild(-1));
        FountainShow edge = withOpenJets(50, 55, 44);
        edge.setWind(9);
        due(100, edge.landing(1));
        due(true, edge.isWild(1));
        due(false, edge.isWild(0));
        edge.setWind(-9);
        due(-1, edge.landing(2));
        due(true, edge.isWild(2));
    }

    private static void wildCount() {
        due(0, new FountainShow().wildCount());
        FountainShow show = withOpenJets(0, 1, 98, 99);
        due(0, show.wildCount());
        show.setWind(3);
        due(2, show.wildCount());
        show.setWind(-3);
        due(2, show.wildCount());
        show.setCapacity(0);
        due(0, show.wildCount());
        FountainShow full = fullShow();
        full.setCapacity(100);
        full.setWind(-9);
        due(10, full.wildCount());
        due(93, full.trim());
        due(0, full.wildCount());
    }

    private static void highestJet() {
        FountainShow show = new FountainShow();
        refused(MISSING, show::highestJet);
        show.addJet(50);
        show.addJet(40);
        show.addJet(30);
        due(0, show.highestJet());
        show.setOpening(2, 5);
        due(2, show.highestJet());
        show.setOpening(1, 5);
        due(1, show.highestJet());
        show.setOpening(0, 6);
        due(0, show.highestJet());
        show.setCapacity(1);
        show.setOpening(0, 9);
        show.setOpening(1, 10);
        show.setOpening(2, 10);
        due(3, show.height(0));
        due(3, show.height(1));
        due(0, show.highestJet());
    }

    private static void jetByPosition() {
        FountainShow show = withJets(50, 0, 99, 25);
        due(1, show.jetByPosition(0));
        due(3, show.jetByPosition(1));
        due(0, show.jetByPosition(2));
        due(2, show.jetByPosition(3));
        refused(MISSING, () -> show.jetByPosition(4));
        refused(MISSING, () -> show.jetByPosition(-1));
        refused(MISSING, () -> new FountainShow().jetByPosition(0));
        FountainShow full = fullShow();
        due(9, full.jetByPosition(0));
        due(0, full.jetByPosition(9));
        refused(MISSING, () -> full.jetByPosition(10));
        due(0, full.highestJet());
        due(9, full.nearestLanding(0));
        due(0, full.crossings());
    }

    private static void nearestLanding() {
        FountainShow show = new FountainShow();
        refused(MISSING, () -> show.nearestLanding(0));
        show.addJet(40);
        show.addJet(20);
        show.addJet(60);
        due(1, show.nearestLanding(29));
        due(0, show.nearestLanding(30));
        due(0, show.nearestLanding(50));
        due(2, show.nearestLanding(51));
        due(1, show.nearestLanding(Integer.MIN_VALUE));
        due(2, show.nearestLanding(Integer.MAX_VALUE));
        show.setOpening(1, 10);
        show.setWind(9);
        due(1, show.nearestLanding(70));
        show.setWind(-9);
        due(1, show.nearestLanding(Integer.MIN_VALUE));
        due(2, show.nearestLanding(Integer.MAX_VALUE));
    }

    private static FountainShow crossing() {
        FountainShow show = withJets(30, 10, 20, 40, 55);
        show.setOpening(1, 10);
        show.setOpening(2, 5);
        show.setWind(9);
        return show;
    }

    private static void crossings() {
        due(0, new FountainShow().crossings());
        FountainShow show = crossing();
        due(5, show.crossings());
        show.setWind(-9);
        due(0, show.crossings());
        FountainShow equal = withJets(10, 15);
        equal.setOpening(0, 1);
        equal.setWind(9);
        due(0, equal.crossings());
        equal.setOpening(0, 2);
        due(0, equal.crossings() - equal.crossingsByMerging());
        equal.setOpening(0, 10);
        due(1, equal.crossings());
        FountainShow meeting = withJets(10, 14);
        meeting.setOpening(0, 1);
        meeting.setWind(9);
        due(14, meeting.landing(0));
        due(0, meeting.crossings());
    }

    private static void crossingsByMerging() {
        due(0, new FountainShow().crossingsByMerging());
        due(0, withJets(7).crossingsByMerging());
        FountainShow show = crossing();
        due(5, show.crossingsByMerging());
        show.setWind(-9);
        due(0, show.crossingsByMerging());
        FountainShow all = withJets(0, 1, 2, 3, 4, 5, 6, 7, 8, 9);
        all.setCapacity(100);
        for (int jet = 0; jet < 10; jet++) {
            all.setOpening(jet, 9 - jet);
        }
        all.setWind(9);
        due(45, all.crossingsByMerging());
        FountainShow meeting = withJets(14, 10);
        meeting.setOpening(1, 1);
        meeting.setWind(9);
        due(0, meeting.crossingsByMerging());
    }

    private static void setCapacity() {
        FountainShow show = new FountainShow();
        due(40, show.setCapacity(0));
        due(0, show.setCapacity(100));
        due(100, show.setCapacity(7));
        refused(ARGUMENT, () -> show.setCapacity(-1));
        refused(ARGUMENT, () -> show.setCapacity(101));
        due(7, show.capacity());
    }

    private static void setWind() {
        FountainShow show = new FountainShow();
        due(0, show.setWind(-9));
        due(-9, show.setWind(9));
        refused(ARGUMENT, () -> show.setWind(-10));
        refused(ARGUMENT, () -> show.setWind(10));
        refused(ARGUMENT, () -> show.setWind(Integer.MIN_VALUE));
        due(9, show.wind());
    }

    private static void trim() {
        due(0, new FountainShow().trim());
        FountainShow show = withOpenJets(99, 98, 10);
        show.setWind(9);
        due(20, show.trim());
        due(0, show.opening(0));
        due(0, show.opening(1));
        due(10, show.opening(2));
        due(0, show.trim());
        due(0, show.wildCount());
        // Each decrease of jet 0 raises jet 1, which lands on 98 at first, until it is wild too.
        FountainShow dry = withOpenJets(95, 80, 70, 60, 50);
        dry.setWind(9);
        dry.setCapacity(20);
        due(false, dry.isWild(1));
        due(9, dry.trim());
        due(2, dry.opening(0));
        due(9, dry.opening(1));
        due(10, dry.opening(2));
        due(10, dry.opening(3));
        due(10, dry.opening(4));
        due(0, dry.wildCount());
    }

    private static void capacity() {
        FountainShow show = new FountainShow();
        due(40, show.capacity());
        show.setCapacity(41);
        due(41, show.capacity());
    }

    private static void wind() {
        FountainShow show = new FountainShow();
        due(0, show.wind());
        show.setWind(-3);
        due(-3, show.wind());
    }

    private static void demand() {
        due(0, new FountainShow().demand());
        FountainShow show = withOpenJets(1, 2, 3, 4, 5);
        due(50, show.demand());
        show.setOpening(2, 1);
        due(41, show.demand());
        show.removeJet(0);
        due(31, show.demand());
    }

    private static void supply() {
        due(0, new FountainShow().supply());
        FountainShow show = withOpenJets(1, 2, 3, 4, 5);
        due(40, show.supply());
        show.setOpening(2, 0);
        due(40, show.supply());
        show.setOpening(3, 9);
        due(39, show.supply());
        show.setCapacity(0);
        due(0, show.supply());
    }

    private static void pumped() {
        FountainShow show = withOpenJets(1, 2);
        due(0L, show.pumped());
        show.pass(3);
        due(60L, show.pumped());
        show.setCapacity(5);
        due(60L, show.pumped());
        show.pass(1);
        due(65L, show.pumped());
        // The steps of a beat happen before its water is counted.
        show.addFigure();
        show.addStep(0, 0, 0, 0);
        show.addStep(0, 0, 1, 3);
        show.play(0, 1);
        show.pass(1);
        due(68L, show.pumped());
    }

    private static void shortage() {
        FountainShow show = withOpenJets(1, 2);
        show.pass(2);
        due(0L, show.shortage());
        show.setCapacity(5);
        due(0L, show.shortage());
        show.pass(2);
        due(30L, show.shortage());
        show.addFigure();
        show.addStep(0, 0, 0, 0);
        show.play(0, 1);
        show.pass(1);
        due(35L, show.shortage());
    }

    private static void addFigure() {
        FountainShow show = new FountainShow();
        for (int figure = 0; figure < 5; figure++) {
            due(figure, show.addFigure());
        }
        refused(STATE, show::addFigure);
        due(5, show.figureCount());
        show.addJet(1);
        show.addStep(4, 1, 0, 1);
        show.removeFigure(4);
        due(4, show.addFigure());
        due(0, show.stepCount(4));
    }

    private static void removeFigure() {
        FountainShow show = withJets(1);
        for (int figure = 0; figure < 4; figure++) {
            show.addFigure();
        }
        show.addStep(1, 1, 0, 1);
        show.addStep(2, 2, 0, 2);
        show.addStep(2, 3, 0, 3);
        show.addStep(3, 4, 0, 4);
        show.play(1, 5);
        show.play(3, 6);
        show.play(1, 7);
        refused(INDEX, () -> show.removeFigure(4));
        refused(INDEX, () -> show.removeFigure(-1));
        refused(STATE, () -> show.removeFigure(1));
        refused(STATE, () -> show.removeFigure(3));
        due(2, show.removeFigure(2));
        due("1:0=1", written(show, 1));
        due("4:0=4", written(show, 2));
        due(1, show.entryFigure(0));
        due(2, show.entryFigure(1));
        due(0, show.removeFigure(0));
        due("1:0=1", written(show, 0));
        due("4:0=4", written(show, 1));
        due(0, show.entryFigure(0));
        due(1, show.entryFigure(1));
        due(0, show.entryFigure(2));
        due(2, show.figureCount());
        show.cancel(1);
        due(1, show.removeFigure(1));
        FountainShow first = new FountainShow();
        first.addFigure();
        first.play(0, 1);
        refused(STATE, () -> first.removeFigure(0));
        FountainShow full = fullShow();
        refused(STATE, () -> full.removeFigure(0));
        refused(STATE, () -> full.removeFigure(2));
        due(8, full.removeFigure(3));
        due("0:2=4 2:3=5 4:4=4 6:5=5 8:6=4 10:7=5 12:8=4 14:9=5", written(full, 3));
        due(8, full.removeFigure(3));
        due(3, full.figureCount());
        due(2, full.entryFigure(5));
    }

    private static void addStep() {
        FountainShow show = withJets(1, 2);
        show.addFigure();
        refused(INDEX, () -> show.addStep(1, 0, 0, 0));
        refused(INDEX, () -> show.addStep(-1, 0, 0, 0));
        refused(INDEX, () -> show.addStep(0, 21, 2, 0));
        refused(INDEX, () -> show.addStep(0, 0, -1, 11));
        refused(ARGUMENT, () -> show.addStep(0, -1, 0, 0));
        refused(ARGUMENT, () -> show.addStep(0, 21, 0, 0));
        refused(ARGUMENT, () -> show.addStep(0, 0, 0, -1));
        refused(ARGUMENT, () -> show.addStep(0, 0, 0, 11));
        due(1, show.addStep(0, 20, 1, 10));
        due(2, show.addStep(0, 0, 0, 0));
        due("20:1=10 0:0=0", written(show, 0));
        for (int step = 3; step <= 8; step++) {
            due(step, show.addStep(0, step, 0, 1));
        }
        refused(INDEX, () -> show.addStep(0, 1, 2, 1));
        refused(ARGUMENT, () -> show.addStep(0, 21, 1, 1));
        refused(STATE, () -> show.addStep(0, 1, 1, 1));
        due(8, show.stepCount(0));
        show.addFigure();
        due(1, show.addStep(1, 7, 1, 7));
        due("7:1=7", written(show, 1));
    }

    private static void removeStep() {
        FountainShow show = withJets(1);
        show.addFigure();
        show.addFigure();
        show.addStep(0, 1, 0, 1);
        show.addStep(0, 2, 0, 2);
        show.addStep(0, 3, 0, 3);
        show.addStep(1, 9, 0, 9);
        refused(INDEX, () -> show.removeStep(0, 3));
        refused(INDEX, () -> show.removeStep(0, -1));
        refused(INDEX, () -> show.removeStep(2, 0));
        refused(INDEX, () -> show.removeStep(-1, 0));
        due(2, show.removeStep(0, 1));
        due("1:0=1 3:0=3", written(show, 0));
        due(1, show.removeStep(0, 0));
        due(0, show.removeStep(0, 0));
        refused(INDEX, () -> show.removeStep(0, 0));
        due("9:0=9", written(show, 1));
        FountainShow full = fullShow();
        due(7, full.removeStep(4, 7));
        due(8, full.addStep(4, 1, 1, 1));
        due(7, full.removeStep(4, 0));
        due("2:3=5 4:4=4 6:5=5 8:6=4 10:7=5 12:8=4 1:1=1", written(full, 4));
    }

    private static void figureCount() {
        FountainShow show = new FountainShow();
        show.addFigure();
        show.addFigure();
        due(2, show.figureCount());
        show.removeFigure(0);
        due(1, show.figureCount());
    }

    private static FountainShow withSteps() {
        FountainShow show = withJets(1, 2, 3);
        show.addFigure();
        show.addFigure();
        show.addStep(1, 7, 2, 5);
        show.addStep(1, 3, 1, 10);
        return show;
    }

    private static void stepCount() {
        FountainShow show = withSteps();
        due(0, show.stepCount(0));
        due(2, show.stepCount(1));
        refused(INDEX, () -> show.stepCount(2));
        refused(INDEX, () -> show.stepCount(-1));
    }

    private static void stepDelay() {
        FountainShow show = withSteps();
        due(7, show.stepDelay(1, 0));
        due(3, show.stepDelay(1, 1));
        refused(INDEX, () -> show.stepDelay(1, 2));
        refused(INDEX, () -> show.stepDelay(1, -1));
        refused(INDEX, () -> show.stepDelay(0, 0));
        refused(INDEX, () -> show.stepDelay(2, 0));
        refused(INDEX, () -> show.stepDelay(-1, 0));
        refused(INDEX, () -> show.stepDelay(0, 8));
    }

    private static void stepJet() {
        FountainShow show = withSteps();
        due(2, show.stepJet(1, 0));
        due(1, show.stepJet(1, 1));
        show.removeJet(0);
        due(1, show.stepJet(1, 0));
        due(0, show.stepJet(1, 1));
        refused(INDEX, () -> show.stepJet(1, 2));
        refused(INDEX, () -> show.stepJet(1, -1));
        refused(INDEX, () -> show.stepJet(2, 0));
        refused(INDEX, () -> show.stepJet(-1, 0));
    }

    private static void stepOpening() {
        FountainShow show = withSteps();
        due(5, show.stepOpening(1, 0));
        due(10, show.stepOpening(1, 1));
        refused(INDEX, () -> show.stepOpening(1, 2));
        refused(INDEX, () -> show.stepOpening(1, -1));
        refused(INDEX, () -> show.stepOpening(2, 0));
        refused(INDEX, () -> show.stepOpening(-1, 0));
    }

    private static void figureLength() {
        FountainShow show = withSteps();
        due(0, show.figureLength(0));
        due(7, show.figureLength(1));
        show.removeStep(1, 0);
        due(3, show.figureLength(1));
        show.addStep(1, 20, 0, 0);
        due(20, show.figureLength(1));
        refused(INDEX, () -> show.figureLength(2));
        refused(INDEX, () -> show.figureLength(-1));
    }

    private static void figuresUsing() {
        FountainShow show = withSteps();
        due(0, show.figuresUsing(0));
        due(1, show.figuresUsing(2));
        show.addStep(1, 1, 2, 2);
        due(1, show.figuresUsing(2));
        show.addStep(0, 1, 2, 2);
        due(2, show.figuresUsing(2));
        show.removeFigure(0);
        due(1, show.figuresUsing(2));
        refused(INDEX, () -> show.figuresUsing(3));
        refused(INDEX, () -> show.figuresUsing(-1));
    }

    private static void play() {
        FountainShow show = new FountainShow();
        show.addFigure();
        refused(INDEX, () -> show.play(1, 0));
        refused(INDEX, () -> show.play(-1, 1));
        refused(ARGUMENT, () -> show.play(0, 0));
        refused(ARGUMENT, () -> show.play(0, 31));
        refused(ARGUMENT, () -> show.play(0, Integer.MAX_VALUE));
        show.pass(10);
        due(11, show.play(0, 1));
        due(40, show.play(0, 30));
        for (int entry = 2; entry < 6; entry++) {
            due(10 + entry, show.play(0, entry));
        }
        refused(ARGUMENT, () -> show.play(0, 31));
        refused(INDEX, () -> show.play(1, 5));
        refused(STATE, () -> show.play(0, 5));
        due(6, show.queueLength());
    }

    private static void cancel() {
        FountainShow show = new FountainShow();
        refused(INDEX, () -> show.cancel(0));
        show.addFigure();
        show.addFigure();
        show.play(0, 3);
        show.play(1, 4);
        show.play(0, 5);
        refused(INDEX, () -> show.cancel(3));
        refused(INDEX, () -> show.cancel(-1));
        due(4, show.cancel(1));
        due(2, show.queueLength());
        due(5, show.entryStart(1));
        due(0, show.entryFigure(1));
        due(3, show.cancel(0));
        due(5, show.cancel(0));
        refused(INDEX, () -> show.cancel(0));
        FountainShow full = fullShow();
        due(11, full.cancel(5));
        due(1, full.cancel(0));
        due(4, full.queueLength());
        due(9, full.entryStart(3));
        due(3, full.entryStart(0));
    }

    private static void pass() {
        FountainShow show = withJets(1, 2);
        refused(ARGUMENT, () -> show.pass(0));
        refused(ARGUMENT, () -> show.pass(41));
        refused(ARGUMENT, () -> show.pass(-1));
        due(0, show.pass(40));
        show.addFigure();
        show.addFigure();
        show.addStep(0, 2, 0, 4);
        show.addStep(0, 1, 1, 5);
        show.addStep(0, 1, 1, 6);
        show.play(0, 1);
        show.play(1, 2);
        due(0, show.pass(1));
        due(0, show.demand());
        due(1, show.pass(1));
        due(6, show.opening(1));
        due(0, show.opening(0));
        due(0, show.entryFigure(0));
        due(1, show.pass(1));
        due(4, show.opening(0));
        due(0, show.queueLength());
        // The order of the entries decides, not that of their starts.
        show.addStep(1, 0, 0, 9);
        show.play(1, 3);
        show.play(0, 1);
        due(2, show.pass(5));
        due(4, show.opening(0));
        // A step added when its beat has passed never happens; one added in time does.
        show.play(0, 1);
        show.pass(2);
        show.addStep(0, 0, 0, 1);
        show.addStep(0, 1, 1, 2);
        show.addStep(0, 4, 1, 3);
        due(0, show.pass(2));
        due(4, show.opening(0));
        due(6, show.opening(1));
        due(1, show.pass(1));
        due(3, show.opening(1));
        due(6, fullShow().pass(40));
    }

    private static void beat() {
        FountainShow show = new FountainShow();
        due(0, show.beat());
        show.pass(40);
        show.pass(1);
        due(41, show.beat());
    }

    private static void queueLength() {
        FountainShow show = new FountainShow();
        show.addFigure();
        due(0, show.queueLength());
        show.play(0, 1);
        show.play(0, 2);
        due(2, show.queueLength());
        show.pass(1);
        due(1, show.queueLength());
        show.cancel(0);
        due(0, show.queueLength());
    }

    private static void entryFigure() {
        FountainShow show = new FountainShow();
        show.addFigure();
        show.addFigure();
        show.play(1, 1);
        show.play(0, 2);
        due(1, show.entryFigure(0));
        due(0, show.entryFigure(1));
        refused(INDEX, () -> show.entryFigure(2));
        refused(INDEX, () -> show.entryFigure(-1));
        show.pass(1);
        due(0, show.entryFigure(0));
        refused(INDEX, () -> show.entryFigure(1));
    }

    private static void entryStart() {
        FountainShow show = new FountainShow();
        show.addFigure();
        show.pass(5);
        show.play(0, 30);
        show.play(0, 1);
        due(35, show.entryStart(0));
        due(6, show.entryStart(1));
        refused(INDEX, () -> show.entryStart(2));
        refused(INDEX, () -> show.entryStart(-1));
        show.pass(1);
        due(35, show.entryStart(0));
        refused(INDEX, () -> show.entryStart(1));
    }

    private static void beatsUntilEmpty() {
        FountainShow show = withJets(1);
        due(0, show.beatsUntilEmpty());
        show.addFigure();
        show.addFigure();
        show.addStep(0, 20, 0, 1);
        show.play(0, 30);
        due(50, show.beatsUntilEmpty());
        show.play(1, 30);
        due(50, show.beatsUntilEmpty());
        show.pass(40);
        due(10, show.beatsUntilEmpty());
        // An entry whose last beat is over, as its step is gone, leaves with the next beat.
        show.removeStep(0, 0);
        due(1, show.queueLength());
        due(1, show.beatsUntilEmpty());
        due(1, show.pass(1));
        due(0, show.beatsUntilEmpty());
        show.play(1, 2);
        show.play(1, 9);
        show.cancel(1);
        due(2, show.beatsUntilEmpty());
    }

    private static FountainShow forecast() {
        FountainShow show = withJets(1, 2);
        show.setOpening(0, 3);
        show.addFigure();
        show.addFigure();
        show.addStep(0, 0, 0, 5);
        show.addStep(0, 4, 1, 10);
        show.addStep(0, 4, 1, 8);
        show.addStep(0, 5, 0, 0);
        show.addStep(1, 0, 0, 1);
        show.play(0, 2);
        show.play(1, 7);
        show.play(0, 30);
        return show;
    }

    private static void demandAfter() {
        FountainShow show = forecast();
        due(3, show.demandAfter(0));
        due(3, show.demandAfter(1));
        due(5, show.demandAfter(2));
        due(5, show.demandAfter(5));
        due(13, show.demandAfter(6));
        due(9, show.demandAfter(7));
        due(13, show.demandAfter(30));
        due(8, show.demandAfter(40));
        refused(ARGUMENT, () -> show.demandAfter(-1));
        refused(ARGUMENT, () -> show.demandAfter(41));
        due(3, show.demand());
        due(0, show.beat());
        due(3, show.queueLength());
        due(0L, show.pumped());
    }

    private static void demandAfterBySteps() {
        FountainShow show = forecast();
        due(3, show.demandAfterBySteps(0));
        due(3, show.demandAfterBySteps(1));
        due(5, show.demandAfterBySteps(2));
        due(5, show.demandAfterBySteps(5));
        due(13, show.demandAfterBySteps(6));
        due(9, show.demandAfterBySteps(7));
        due(13, show.demandAfterBySteps(30));
        due(8, show.demandAfterBySteps(40));
        refused(ARGUMENT, () -> show.demandAfterBySteps(-1));
        refused(ARGUMENT, () -> show.demandAfterBySteps(41));
        // Steps of the beats that have passed do not count again.
        show.pass(2);
        show.setOpening(0, 7);
        due(7, show.demandAfterBySteps(0));
        due(7, show.demandAfterBySteps(1));
        show.addStep(0, 0, 1, 9);
        due(7, show.demandAfterBySteps(3));
        due(15, show.demandAfterBySteps(4));
        // A step of the next beat; and an earlier step of a later entry, which does not win.
        FountainShow next = withJets(1);
        next.addFigure();
        next.addFigure();
        next.addStep(0, 0, 0, 4);
        next.addStep(1, 0, 0, 6);
        next.play(0, 1);
        due(4, next.demandAfterBySteps(1));
        next.cancel(0);
        next.play(0, 3);
        next.play(1, 2);
        due(6, next.demandAfterBySteps(2));
        due(4, next.demandAfterBySteps(3));
        due(4, next.demandAfter(3));
        // In the same beat the later entry wins, and in an entry the later step.
        next.play(1, 3);
        due(6, next.demandAfterBySteps(3));
        next.addStep(1, 0, 0, 8);
        due(8, next.demandAfterBySteps(3));
        due(8, next.demandAfter(3));
        FountainShow full = fullShow();
        for (int beats = 0; beats <= 40; beats++) {
            due(full.demandAfter(beats), full.demandAfterBySteps(beats));
        }
    }

    private static void firstOverload() {
        FountainShow show = forecast();
        show.setCapacity(9);
        due(6, show.firstOverload(40));
        due(6, show.firstOverload(6));
        refused(MISSING, () -> show.firstOverload(5));
        refused(MISSING, () -> show.firstOverload(0));
        refused(ARGUMENT, () -> show.firstOverload(-1));
        refused(ARGUMENT, () -> show.firstOverload(41));
        show.setCapacity(12);
        due(6, show.firstOverload(40));
        show.setCapacity(13);
        refused(MISSING, () -> show.firstOverload(40));
        show.setCapacity(2);
        due(1, show.firstOverload(1));
        due(0, show.beat());
    }

    private static void meanOpening() {
        FountainShow show = new FountainShow();
        refused(ARITHMETIC, show::meanOpening);
        show.addJet(1);
        due(0.0, show.meanOpening());
        show.addJet(2);
        show.addJet(3);
        show.setOpening(1, 10);
        due(10.0 / 3.0, show.meanOpening());
    }

    private static void supplyFraction() {
        FountainShow show = new FountainShow();
        refused(ARITHMETIC, show::supplyFraction);
        show.addJet(1);
        refused(ARITHMETIC, show::supplyFraction);
        show.setOpening(0, 9);
        due(1.0f, show.supplyFraction());
        show.setCapacity(7);
        due(7.0f / 9.0f, show.supplyFraction());
        show.setCapacity(0);
        due(0.0f, show.supplyFraction());
    }

    private static void writeFigure() {
        FountainShow show = withJets(1, 2, 3, 4);
        show.addFigure();
        show.addFigure();
        show.addStep(1, 0, 3, 10);
        show.addStep(1, 5, 3, 0);
        due(12, show.writeFigure(1));
        due("0:3=10 5:3=0", written(show, 1));
        due(0, show.writeFigure(0));
        refused(INDEX, () -> show.outputCharacter(0));
        for (int step = 0; step < 8; step++) {
            show.addStep(0, 20, 3, 10);
        }
        due(63, show.writeFigure(0));
        refused(INDEX, () -> show.writeFigure(2));
        refused(INDEX, () -> show.writeFigure(-1));
        due('2', show.outputCharacter(0));
    }

    private static void outputCharacter() {
        FountainShow show = withJets(1);
        refused(INDEX, () -> show.outputCharacter(0));
        show.addFigure();
        show.addStep(0, 12, 0, 7);
        show.writeFigure(0);
        due('1', show.outputCharacter(0));
        due('2', show.outputCharacter(1));
        due(':', show.outputCharacter(2));
        due('0', show.outputCharacter(3));
        due('=', show.outputCharacter(4));
        due('7', show.outputCharacter(5));
        refused(INDEX, () -> show.outputCharacter(6));
        refused(INDEX, () -> show.outputCharacter(-1));
        show.removeStep(0, 0);
        show.undo();
        show.undo();
        show.undo();
        show.save();
        show.restore();
        due('7', show.outputCharacter(5));
    }

    private static void isConsistent() {
        due(true, new FountainShow().isConsistent());
        due(true, crossing().isConsistent());
        FountainShow full = fullShow();
        due(true, full.isConsistent());
        full.setWind(9);
        full.setCapacity(100);
        full.pass(7);
        due(true, full.isConsistent());
        FountainShow show = forecast();
        due(true, show.isConsistent());
        due(0, show.beat());
        due(3, show.queueLength());
    }

    private static void feeding() {
        FountainShow show = new FountainShow();
        for (int length = 1; length <= 60; length++) {
            due(length, show.feed((char) (length * 1000)));
        }
        refused(STATE, () -> show.feed('a'));
        refused(ARGUMENT, show::execute);
        due(1, show.feed('t'));
        show.save();
        show.addJet(1);
        show.undo();
        show.restore();
        due(2, show.feed('r'));
    }

    private static void malformed(String text, int position) {
        FountainShow show = new FountainShow();
        feed(show, text);
        refused(ARGUMENT, show::execute);
        due(text + " -> " + position, text + " -> " + show.errorPosition());
        refused(MISSING, show::failedCommand);
        due(0, show.undoCount());
        due(1, show.feed('x'));
    }

    private static void failing(String text, int command) {
        FountainShow show = new FountainShow();
        feed(show, text);
        refused(UNSUPPORTED, show::execute);
        due(text + " -> " + command, text + " -> " + show.failedCommand());
        refused(MISSING, show::errorPosition);
        due(0, show.undoCount());
        due(0, show.jetCount());
        due(0, show.figureCount());
        due(0, show.beat());
        due(1, show.feed('x'));
    }

    private static void execute() {
        FountainShow show = new FountainShow();
        due(7, run(show, "jet 20;open 0=3;wind -4;figure;step 0+1:0=9;play 0+2;pump 8"));
        due(1, show.undoCount());
        due(20, show.position(0));
        due(3, show.opening(0));
        due(-4, show.wind());
        due("1:0=9", written(show, 0));
        due(2, show.entryStart(0));
        due(8, show.capacity());
        due(2, run(show, "pass 3;trim"));
        due(9, show.opening(0));
        due(3, show.beat());
        due(2, show.undoCount());
        due(12, run(show, "trim;trim;trim;trim;trim;trim;trim;trim;trim;trim;trim;trim"));
        due(1, show.feed('t'));
    }

    private static void executeEachCommand() {
        FountainShow show = new FountainShow();
        due(1, run(show, "jet 099"));
        due(99, show.position(0));
        due(1, run(show, "open 0=010"));
        due(10, show.opening(0));
        due(1, run(show, "pump 100"));
        due(100, show.capacity());
        due(1, run(show, "wind +9"));
        due(9, show.wind());
        due(1, run(show, "trim"));
        due(0, show.opening(0));
        due(1, run(show, "wind -0"));
        due(0, show.wind());
        due(1, run(show, "figure"));
        due(1, run(show, "step 0+20:0=7"));
        due("20:0=7", written(show, 0));
        due(1, run(show, "play 0+30"));
        due(30, show.entryStart(0));
        due(1, run(show, "pass 40"));
        due(40, show.beat());
        due(1, run(show, "pass 010"));
        due(0, show.queueLength());
        due(7, show.opening(0));
    }

    private static void executeAllOrNone() {
        FountainShow show = withJets(5);
        show.addFigure();
        feed(show, "jet 6;open 1=4;pump 3;wind +2;figure;play 0+1;pass 2;pass 41");
        refused(UNSUPPORTED, show::execute);
        due(7, show.failedCommand());
        due(1, show.jetCount());
        due(40, show.capacity());
        due(0, show.wind());
        due(1, show.figureCount());
        due(0, show.queueLength());
        due(0, show.beat());
        due(2, show.undoCount());
        failing("jet 100", 0);
        failing("jet 1;jet 1", 1);
        failing("open 0=1", 0);
        failing("jet 1;open 0=11", 1);
        failing("jet 1;open 1=1", 1);
        failing("pump 101", 0);
        failing("trim;figure;figure;figure;figure;figure;figure", 6);
        failing("figure;step 0+0:0=1", 1);
        failing("jet 1;step 0+0:0=1", 1);
        failing("jet 1;figure;step 0+21:0=1", 2);
        failing("jet 1;figure;step 0+0:0=11", 2);
        failing("play 0+1", 0);
        failing("figure;play 0+0", 1);
        failing("figure;play 0+31", 1);
        failing("pass 0", 0);
        failing("pass 41", 0);
        failing("trim;pass 999;jet 100", 1);
        failing("pump 1;figure;pass 5;jet 3;trim;wind -9;pass 0", 6);
        FountainShow full = withJets(0, 1, 2, 3, 4, 5, 6, 7, 8, 9);
        feed(full, "jet 10");
        refused(UNSUPPORTED, full::execute);
        feed(full, "figure;play 0+1;play 0+1;play 0+1;play 0+1;play 0+1");
        full.execute();
        feed(full, "play 0+1;play 0+1");
        refused(UNSUPPORTED, full::execute);
        due(1, full.failedCommand());
    }

    private static void errorPosition() {
        refused(MISSING, new FountainShow()::errorPosition);
        malformed("", 0);
        malformed(";", 0);
        malformed(" jet 1", 0);
        malformed("Jet 1", 0);
        malformed("jEt 1", 1);
        malformed("j", 1);
        malformed("jet", 3);
        malformed("jet ", 4);
        malformed("jet x", 4);
        malformed("jet -1", 4);
        malformed("jet 1234", 7);
        malformed("jet 1 ", 5);
        malformed("jet 1;", 6);
        malformed("jet 1;;jet 2", 6);
        malformed("jet  1", 4);
        malformed("open 12=3", 6);
        malformed("open 1", 6);
        malformed("open 1=", 7);
        malformed("open =1", 5);
        malformed("p", 1);
        malformed("px", 1);
        malformed("pl", 2);
        malformed("plm", 2);
        malformed("pump1", 4);
        malformed("pa ", 2);
        malformed("pass", 4);
        malformed("wind 4", 5);
        malformed("wind +", 6);
        malformed("wind +10", 7);
        malformed("wind -a", 6);
        malformed("trim ", 4);
        malformed("trimm", 4);
        malformed("tri", 3);
        malformed("trim;", 5);
        malformed("figur", 5);
        malformed("figure1", 6);
        malformed("step 0-1:0=1", 6);
        malformed("step 0+1;0=1", 8);
        malformed("step 0+1:10=1", 10);
        malformed("step 0+1:0=", 11);
        malformed("step 0+0001:0=1", 10);
        malformed("step a", 5);
        malformed("play 0", 6);
        malformed("play 0=1", 6);
        malformed("jet 100;jet x", 12);
        malformed("jet " + (char) 0x661, 4);
        malformed("jet N", 4);
        malformed("open D=1", 5);
        malformed("wind S1", 5);
        malformed("f\u0131gure", 1);
        malformed("trim;trim;trim;trim;trim;trim;trim;trim;trim;trim;trim;trim;", 60);
        FountainShow show = new FountainShow();
        feed(show, "trimx");
        refused(ARGUMENT, show::execute);
        feed(show, "pass 0");
        refused(UNSUPPORTED, show::execute);
        run(show, "trim");
        show.undo();
        show.save();
        show.restore();
        due(4, show.errorPosition());
        feed(show, "ju");
        refused(ARGUMENT, show::execute);
        due(1, show.errorPosition());
    }

    private static void failedCommand() {
        FountainShow show = new FountainShow();
        refused(MISSING, show::failedCommand);
        feed(show, "trim;pass 0");
        refused(UNSUPPORTED, show::execute);
        feed(show, "x");
        refused(ARGUMENT, show::execute);
        run(show, "jet 5");
        show.undo();
        show.save();
        show.restore();
        due(1, show.failedCommand());
        feed(show, "pass 0");
        refused(UNSUPPORTED, show::execute);
        due(0, show.failedCommand());
    }

    private static void undo() {
        FountainShow show = new FountainShow();
        refused(STATE, show::undo);
        for (int capacity = 1; capacity <= 20; capacity++) {
            show.setCapacity(capacity);
        }
        for (int left = 7; left >= 0; left--) {
            due(left, show.undo());
            due(12 + left, show.capacity());
        }
        refused(STATE, show::undo);
        due(12, show.capacity());
        show.setCapacity(50);
        show.setCapacity(60);
        due(1, show.undo());
        due(50, show.capacity());
        show.setCapacity(70);
        due(1, show.undo());
        due(0, show.undo());
        due(12, show.capacity());
    }

    private static void undoOfEachChange() {
        FountainShow show = withJets(10, 99);
        show.addFigure();
        show.addFigure();
        show.addStep(0, 1, 0, 3);
        show.setOpening(1, 10);
        show.removeJet(0);
        show.undo();
        due(10, show.position(0));
        due("1:0=3", written(show, 0));
        show.setWind(9);
        show.trim();
        due(0, show.opening(1));
        show.undo();
        due(10, show.opening(1));
        show.undo();
        due(0, show.wind());
        show.removeFigure(1);
        show.undo();
        due(2, show.figureCount());
        show.removeStep(0, 0);
        show.undo();
        due(1, show.stepCount(0));
        show.play(0, 1);
        show.pass(5);
        due(13, show.demand());
        show.undo();
        due(0, show.beat());
        due(0L, show.pumped());
        due(1, show.queueLength());
        due(10, show.demand());
        show.cancel(0);
        show.undo();
        due(1, show.queueLength());
        show.undo();
        due(0, show.queueLength());
        run(show, "jet 11;pump 7");
        show.undo();
        due(40, show.capacity());
        due(2, show.jetCount());
        show.addJet(50);
        show.undo();
        due(2, show.jetCount());
        show.addFigure();
        show.undo();
        due(2, show.figureCount());
        FountainShow full = fullShow();
        String last = written(full, 4);
        full.removeFigure(4);
        full.addFigure();
        full.addStep(4, 20, 0, 10);
        full.cancel(5);
        full.play(4, 30);
        full.removeJet(9);
        for (int change = 0; change < 6; change++) {
            full.undo();
        }
        due(last, written(full, 4));
        due(11, full.entryStart(5));
        due(0, full.position(9));
    }

    private static void undoCount() {
        FountainShow show = new FountainShow();
        due(0, show.undoCount());
        refused(ARGUMENT, () -> show.addJet(-1));
        due(0, show.undoCount());
        show.trim();
        due(1, show.undoCount());
        show.addJet(1);
        show.setOpening(0, 0);
        show.setCapacity(40);
        show.setWind(0);
        show.addFigure();
        due(6, show.undoCount());
        show.play(0, 1);
        show.cancel(0);
        due(8, show.undoCount());
        show.pass(1);
        due(8, show.undoCount());
        show.save();
        due(8, show.undoCount());
        show.undo();
        due(7, show.undoCount());
        show.addStep(0, 0, 0, 0);
        due(8, show.undoCount());
        show.restore();
        due(0, show.undoCount());
        run(show, "trim;trim;trim");
        due(1, show.undoCount());
        show.removeJet(0);
        show.addJet(3);
        show.addStep(0, 0, 0, 0);
        show.removeStep(0, 0);
        show.removeFigure(0);
        due(6, show.undoCount());
    }

    private static void save() {
        FountainShow show = new FountainShow();
        due(0, show.save());
        show.addJet(1);
        due(1, show.save());
        show.addJet(2);
        show.undo();
        show.undo();
        due(0, show.jetCount());
        due(1, show.restore());
        due(1, show.position(0));
    }

    private static void restore() {
        FountainShow show = forecast();
        refused(STATE, show::restore);
        show.pass(4);
        show.setCapacity(2);
        show.setWind(3);
        show.save();
        show.pass(40);
        show.removeJet(0);
        show.setCapacity(3);
        show.setWind(4);
        show.removeFigure(0);
        due(2, show.restore());
        refused(STATE, show::undo);
        due(4, show.beat());
        due(2, show.capacity());
        due(3, show.wind());
        due(2, show.figureCount());
        due(3, show.queueLength());
        due(2, show.entryStart(0));
        due(5, show.demand());
        due(18L, show.pumped());
        due(0L, show.shortage());
        show.addJet(77);
        due(3, show.jetCount());
        due(2, show.restore());
        due(2, show.jetCount());
        FountainShow full = fullShow();
        String last = written(full, 4);
        full.save();
        full.pass(40);
        for (int figure = 4; figure >= 0; figure--) {
            full.removeFigure(figure);
        }
        for (int jet = 9; jet >= 0; jet--) {
            full.removeJet(jet);
        }
        due(10, full.restore());
        due(last, written(full, 4));
        due(11, full.entryStart(5));
        due(0, full.position(9));
        due(100, full.demand());
    }
}
