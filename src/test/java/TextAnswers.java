import java.util.List;
import java.util.function.Supplier;

/** What calls answer, of the statistics, the output and the commands: promises 48 to 56. */
final class TextAnswers {
    private TextAnswers() {
    }

    static void test() {
        statisticsAndOutput();
        commands();
    }

    // Statistics and output.

    private static void statisticsAndOutput() {
        Checks.promise(48, "Returns the mean opening of all jets: the sum divided by the number of jets, both converted to double.",
                TextAnswers::means);
        Checks.promise(48, "Returns the mean.", TextAnswers::extremeMeans);
        Checks.promise(49, "Returns the supply divided by the demand, both converted to float.", TextAnswers::fractions);
        Checks.promise(49, "Returns the fraction.", TextAnswers::extremeFractions);
        Checks.promise(50, "Writes a figure as the output, which replaces the previous one: its steps, separated by single spaces, each as"
                + " its delay, \":\", its jet, \"=\" and its opening.", TextAnswers::writes);
        Checks.promise(50, "Example: \"0:3=10 5:3=0\".", TextAnswers::writesTheExample);
        Checks.promise(50, "Returns the length of the output.", TextAnswers::lengthsOfOutput);
        Checks.promise(51, "Returns a character of the output, which is empty at first.", TextAnswers::emptyAtFirst);
        Checks.promise(51, "Returns the character.", TextAnswers::characters);
        Checks.promise(52, "Checks by second methods whether the fountain is consistent: crossings and crossingsByMerging agree, and"
                + " demandAfter and demandAfterBySteps agree for 0 to 40 beats.", TextAnswers::isConsistent);
        Checks.promise(52, "Returns true if it is consistent.", TextAnswers::isConsistent);
    }

    private static void means() {
        FountainShow show = Shows.openJets(5, 6, 7);
        show.setOpening(2, 0);
        Checks.due(20.0 / 3.0, show.meanOpening());
        show.setOpening(1, 0);
        Checks.due(10.0 / 3.0, show.meanOpening());
        show.setCapacity(0);
        Checks.due(10.0 / 3.0, show.meanOpening());
        FountainShow seven = Shows.jets(0, 1, 2, 3, 4, 5, 6);
        seven.setOpening(6, 1);
        Checks.due(1.0 / 7.0, seven.meanOpening());
    }

    private static void extremeMeans() {
        Checks.due(0.0, Shows.jets(5).meanOpening());
        Checks.due(10.0, Shows.openJets(5).meanOpening());
        Checks.due(0.0, Shows.jets(0, 1, 2, 3, 4, 5, 6, 7, 8, 9).meanOpening());
        Checks.due(10.0, Shows.openJets(0, 1, 2, 3, 4, 5, 6, 7, 8, 9).meanOpening());
        Checks.due(9.3, Shows.full().meanOpening());
    }

    private static void fractions() {
        FountainShow show = Shows.openJets(5, 6, 7);
        for (int capacity = 0; capacity <= 30; capacity++) {
            show.setCapacity(capacity);
            Checks.due((float) capacity / 30.0f, show.supplyFraction());
        }
        show.setCapacity(7);
        show.setOpening(0, 1);
        Checks.due(7.0f / 21.0f, show.supplyFraction());
    }

    private static void extremeFractions() {
        FountainShow all = Shows.openJets(0, 1, 2, 3, 4, 5, 6, 7, 8, 9);
        all.setCapacity(0);
        Checks.due(0.0f, all.supplyFraction());
        all.setCapacity(1);
        Checks.due(0.01f, all.supplyFraction());
        all.setCapacity(99);
        Checks.due(0.99f, all.supplyFraction());
        all.setCapacity(100);
        Checks.due(1.0f, all.supplyFraction());
        FountainShow one = Shows.jets(5);
        one.setOpening(0, 1);
        Checks.due(1.0f, one.supplyFraction());
        one.setCapacity(0);
        Checks.due(0.0f, one.supplyFraction());
    }

    private static void writes() {
        FountainShow show = Shows.full();
        Checks.due("0:0=0 2:1=1 4:2=2 6:3=3 8:4=4 10:5=5 12:6=6 14:7=7", Shows.written(show, 0));
        Checks.due("20:8=10 20:9=10 20:0=10 20:1=10 20:2=10 20:3=10 20:4=10 20:5=10", Shows.written(show, 4));
        show.removeStep(0, 0);
        // The output is what was written, not what the figure has become since.
        Checks.due("20:8=10", Looks.output(show).substring(0, 7));
        FountainShow small = Shows.usual();
        Checks.due("2:1=8", Shows.written(small, 1));
        Checks.due("2:1=8|throws java.lang.IndexOutOfBoundsException", Looks.output(small));
        Checks.due("", Shows.written(small, 2));
        Checks.due("|throws java.lang.IndexOutOfBoundsException", Looks.output(small));
    }

    private static void writesTheExample() {
        FountainShow show = Shows.jets(1, 2, 3, 4);
        show.addFigure();
        show.addStep(0, 0, 3, 10);
        show.addStep(0, 5, 3, 0);
        Checks.due("0:3=10 5:3=0", Shows.written(show, 0));
    }

    private static void lengthsOfOutput() {
        Checks.due(0, Shows.figures(1).writeFigure(0));
        FountainShow full = Shows.full();
        Checks.due("63 50 63", full.writeFigure(4) + " " + full.writeFigure(0) + " " + full.writeFigure(4));
        Checks.due("18 5 0", Shows.usual().writeFigure(0) + " " + Shows.usual().writeFigure(1) + " " + Shows.usual().writeFigure(2));
    }

    private static void emptyAtFirst() {
        Checks.due("|throws java.lang.IndexOutOfBoundsException", Looks.output(new FountainShow()));
        FountainShow show = Shows.jets(5);
        show.addFigure();
        show.addStep(0, 1, 0, 1);
        Checks.due("|throws java.lang.IndexOutOfBoundsException", Looks.output(show));
        show.writeFigure(0);
        Checks.due("1:0=1|throws java.lang.IndexOutOfBoundsException", Looks.output(show));
    }

    private static void characters() {
        FountainShow show = Shows.full();
        Checks.due('2', show.outputCharacter(0));
        Checks.due('0', show.outputCharacter(62));
        Checks.due(' ', show.outputCharacter(7));
        Checks.due('5', show.outputCharacter(59));
        Checks.due('=', show.outputCharacter(60));
    }

    private static void isConsistent() {
        for (Supplier<FountainShow> made : List.<Supplier<FountainShow>>of(FountainShow::new, Shows::usual, Shows::full, Shows::busy)) {
            Checks.due(true, made.get().isConsistent());
            Checks.unchanged(made, FountainShow::isConsistent);
            FountainShow show = made.get();
            show.setCapacity(100);
            show.setWind(9);
            for (int beat = 0; beat < 50; beat++) {
                show.pass(1);
                Checks.due(true, show.isConsistent());
            }
        }
    }

    // Commands.

    private static void commands() {
        Checks.promise(53, "Appends a character to the input buffer.", TextAnswers::appends);
        Checks.promise(53, "Returns the new length of the input buffer.", TextAnswers::newLengths);
        Checks.promise(54, "Executes the text in the input buffer, command by command, either all commands or none.", TextAnswers::allOrNone);
        Checks.promise(54, "The input buffer is empty afterwards, also if an exception is thrown.", TextAnswers::emptyAfterwards);
        Checks.promise(54, "Returns the number of commands.", TextAnswers::numberOfCommands);
        Checks.promise(55, "Returns the error position that was kept last.", TextAnswers::lastErrorPosition);
        Checks.promise(55, "Returns the error position.", TextAnswers::errorPositions);
        Checks.promise(56, "Returns the failed command that was kept last.", TextAnswers::lastFailedCommand);
        Checks.promise(56, "Returns the index of the command.", TextAnswers::failedCommands);
    }

    private static void appends() {
        FountainShow show = new FountainShow();
        for (char character : "jet 7;jet 8".toCharArray()) {
            show.feed(character);
        }
        Checks.due(2, show.execute());
        Checks.due("7 8", show.position(0) + " " + show.position(1));
        // Any character may be fed; what it is shows when the text is executed.
        for (char character = 0; character < 256; character++) {
            FountainShow one = new FountainShow();
            Checks.due(1, one.feed(character));
            Checks.due("throws java.lang.IllegalArgumentException", Checks.outcome(one, FountainShow::execute));
            Checks.due("jopwtfs".indexOf(character) >= 0 ? 1 : 0, one.errorPosition());
        }
        Checks.due(1, new FountainShow().feed(Character.MAX_VALUE));
        Checks.due(1, new FountainShow().feed(Character.MIN_VALUE));
    }

    private static void newLengths() {
        FountainShow show = new FountainShow();
        for (int round = 0; round < 3; round++) {
            for (int length = 1; length <= 60; length++) {
                Checks.due(length, show.feed((char) (1000 * length + round)));
            }
            Checks.due("throws java.lang.IllegalStateException", Checks.outcome(show, s -> s.feed('x')));
            Checks.outcome(show, FountainShow::execute);
        }
    }

    private static void allOrNone() {
        FountainShow all = Shows.full();
        Checks.due(8, all.execute());
        Checks.due("50 -2 4", all.capacity() + " " + all.wind() + " " + all.beat());
        // A failing command behind none, one, two and more that go well by themselves.
        String[] commands = {"jet 1", "open 0=1", "pump 9", "wind -1", "figure", "play 0+1", "pass 1"};
        for (int failing = 0; failing <= commands.length; failing++) {
            StringBuilder text = new StringBuilder();
            for (int command = 0; command < failing; command++) {
                text.append(commands[command]).append(';');
            }
            text.append("pass 0");
            FountainShow show = Shows.usual("");
            Checks.due("throws java.lang.UnsupportedOperationException", Shows.run(show, text.toString()));
            Checks.due(failing, show.failedCommand());
            Checks.due(Looks.state(Shows.usual("")), Looks.state(show));
        }
        // One command after the other: each finds what the earlier ones have left.
        FountainShow show = new FountainShow();
        Checks.due("5", Shows.run(show, "jet 0;figure;step 0+0:0=9;play 0+1;pass 1"));
        Checks.due("9 1 9", show.opening(0) + " " + show.beat() + " " + show.pumped());
        Checks.due("throws java.lang.UnsupportedOperationException", Shows.run(show, "open 1=1;jet 1"));
        Checks.due("2", Shows.run(show, "jet 1;open 1=1"));
        Checks.due("2", Shows.run(show, "wind -9;trim"));
        Checks.due("0 0", show.opening(0) + " " + show.opening(1));
    }

    private static void emptyAfterwards() {
        for (String text : new String[] {"trim", "", "x", "trim;", "pass 0", "trim;pass 0", Shows.FULL_TEXT, "x".repeat(60), "trim;".repeat(12)}) {
            FountainShow show = new FountainShow();
            Shows.run(show, text);
            Checks.due("throws java.lang.IllegalArgumentException", Checks.outcome(show, FountainShow::execute));
            Checks.due(0, show.errorPosition());
            Checks.due(1, show.feed('t'));
            // Nothing of the longer text comes back behind a shorter one.
            Checks.due("1", Shows.run(show, "rim"));
        }
    }

    private static void numberOfCommands() {
        Checks.due("1", Shows.run(new FountainShow(), "figure"));
        Checks.due("5", Shows.run(new FountainShow(), "figure;figure;figure;figure;figure"));
        Checks.due("12", Shows.run(new FountainShow(), "trim;trim;trim;trim;trim;trim;trim;trim;trim;trim;trim;trim"));
        Checks.due("10", Shows.run(new FountainShow(), "jet 0;jet 1;jet 2;jet 3;jet 4;jet 5;jet 6;jet 7;jet 8;jet 9"));
        Checks.due("throws java.lang.UnsupportedOperationException",
                Shows.run(Shows.jets(0, 1, 2, 3, 4, 5, 6, 7, 8, 9), "trim;trim;trim;trim;trim;trim;trim;trim;trim;trim;trim;jet 5"));
    }

    private static void lastErrorPosition() {
        FountainShow show = new FountainShow();
        Shows.run(show, "trimx");
        Checks.due(4, show.errorPosition());
        Shows.run(show, "");
        Checks.due(0, show.errorPosition());
        Shows.run(show, "trim;trim;trim;trim;trim;trim;trim;trim;trim;trim;trim;trim;");
        Checks.due(60, show.errorPosition());
        // Neither a text that goes well nor one with a failing command keeps another one.
        Shows.run(show, "trim");
        Shows.run(show, "pass 0");
        Checks.due(60, show.errorPosition());
    }

    private static void errorPositions() {
        String text = "trim;trim;trim;trim;trim;trim;trim;trim;trim;trim;trim;jet 5";
        for (int index = 0; index < 60; index++) {
            FountainShow show = new FountainShow();
            Shows.run(show, text.substring(0, index) + "x".repeat(60 - index));
            Checks.due(index, show.errorPosition());
        }
    }

    private static void lastFailedCommand() {
        FountainShow show = new FountainShow();
        Shows.run(show, "trim;trim;pass 0");
        Checks.due(2, show.failedCommand());
        Shows.run(show, "pass 0;pass 0");
        Checks.due(0, show.failedCommand());
        Shows.run(show, "trim;pass 41");
        Checks.due(1, show.failedCommand());
        // Neither a text that goes well nor a malformed one keeps another one.
        Shows.run(show, "trim");
        Shows.run(show, "pass 0;x");
        Checks.due(1, show.failedCommand());
    }

    private static void failedCommands() {
        for (int failing = 0; failing <= 11; failing++) {
            FountainShow show = Shows.jets(0);
            Shows.run(show, "trim;".repeat(failing) + "jet 0");
            Checks.due(failing, show.failedCommand());
        }
        FountainShow first = new FountainShow();
        Shows.run(first, "jet 100;trim;trim");
        Checks.due(0, first.failedCommand());
    }
}
