import java.util.Random;
import java.util.function.Supplier;

/** Long runs of calls, the same on the class and on the model; each answer and each exception has to agree. */
public final class ModelTest {
    private static final int RUNS = 6000;
    /** What an object answers after this many calls is free. */
    private static final int CALLS = 512;
    private static final String[] PARTS = {"jet ", "open ", "pump ", "wind ", "trim", "figure", "step ", "play ",
        "pass ", ";", "+", "-", ":", "=", " ", "0", "1", "12", "999", "x", "p", "st", "\u0661"};

    private final Random random;
    private final int run;
    private final FountainShow show = new FountainShow();
    private final Model model = new Model();
    private final StringBuilder told = new StringBuilder();
    private String waiting = "";
    private int calls = 0;
    private int wrong = 0;

    private ModelTest(int run) {
        this.run = run;
        this.random = new Random(run);
    }

    public static void main(String[] args) {
        int wrong = 0;
        for (int run = 0; run < RUNS && wrong == 0; run++) {
            wrong += new ModelTest(run).go();
        }
        System.out.println(wrong == 0 ? "model: all runs agree" : "model: a run does not agree");
        if (wrong != 0) {
            System.exit(1);
        }
    }

    /** Some runs end early, so that calls are left to look at everything. */
    private int go() {
        int last = random.nextBoolean() ? CALLS : 20 + random.nextInt(CALLS - 20);
        while (calls < last && wrong == 0) {
            if (!waiting.isEmpty()) {
                feedNext();
            } else if (random.nextInt(3) == 0) {
                look();
            } else {
                change();
            }
        }
        lookAtAll();
        return wrong;
    }

    private static Object answer(Supplier<Object> call) {
        try {
            return call.get();
        } catch (RuntimeException e) {
            return e.getClass().getSimpleName();
        }
    }

    private void same(String name, Supplier<Object> first, Supplier<Object> second) {
        if (calls == CALLS || wrong > 0) {
            return;
        }
        calls++;
        Object got = answer(first);
        Object want = answer(second);
        told.append(name).append(" -> ").append(want).append('\n');
        if (!got.equals(want)) {
            wrong++;
            System.out.println("run " + run + ", calls so far:\n" + told + "but the class answered " + got);
        }
    }

    /** Mostly a number of the range, at times one next to it or far away. */
    private int number(int least, int most) {
        int kind = random.nextInt(40);
        if (kind == 0) {
            return least - 1;
        }
        if (kind == 1) {
            return most + 1;
        }
        if (kind == 2) {
            return random.nextInt();
        }
        if (kind < 6) {
            return kind == 3 ? least : most;
        }
        return least + random.nextInt(Math.max(1, most - least + 1));
    }

    private int jet() {
        return number(0, model.world.jets.size() - 1);
    }

    private int figure() {
        return number(0, model.world.figures.size() - 1);
    }

    private int step(int figure) {
        boolean has = figure >= 0 && figure < model.world.figures.size();
        return number(0, has ? model.world.figures.get(figure).steps.size() - 1 : 0);
    }

    private int entry() {
        return number(0, model.world.queue.size() - 1);
    }

    private void feedNext() {
        char character = waiting.charAt(0);
        waiting = waiting.substring(1);
        same("feed(" + (int) character + ")", () -> show.feed(character), () -> model.feed(character));
        if (waiting.isEmpty()) {
            same("execute()", show::execute, model::execute);
            same("errorPosition()", show::errorPosition, () -> model.kept(model.errorPosition));
            same("failedCommand()", show::failedCommand, () -> model.kept(model.failedCommand));
        }
    }

    private void change() {
        int figure = figure();
        int step = step(figure);
        int jet = jet();
        int entry = entry();
        int opening = number(0, 10);
        switch (random.nextInt(26)) {
            case 0: case 1: case 2: {
                int position = number(0, 99);
                same("addJet(" + position + ")", () -> show.addJet(position), () -> model.addJet(position));
                break;
            }
            case 3: {
                if (random.nextInt(3) == 0) {
                    same("removeJet(" + jet + ")", () -> show.removeJet(jet), () -> model.removeJet(jet));
                }
                break;
            }
            case 4: case 5: case 6: case 7:
                same("setOpening(" + jet + "," + opening + ")", () -> show.setOpening(jet, opening),
                        () -> model.setOpening(jet, opening));
                break;
            case 8: {
                int capacity = number(0, 100);
                same("setCapacity(" + capacity + ")", () -> show.setCapacity(capacity), () -> model.setCapacity(capacity));
                break;
            }
            case 9: case 10: {
                int wind = number(-9, 9);
                same("setWind(" + wind + ")", () -> show.setWind(wind), () -> model.setWind(wind));
                break;
            }
            case 11:
                same("trim()", show::trim, model::trim);
                break;
            case 12: case 13:
                same("addFigure()", show::addFigure, model::addFigure);
                break;
            case 14:
                same("removeFigure(" + figure + ")", () -> show.removeFigure(figure), () -> model.removeFigure(figure));
                break;
            case 15: case 16: case 17: case 18: {
                int delay = number(0, random.nextBoolean() ? 20 : 3);
                same("addStep(" + figure + "," + delay + "," + jet + "," + opening + ")",
                        () -> show.addStep(figure, delay, jet, opening), () -> model.addStep(figure, delay, jet, opening));
                break;
            }
            case 19:
                same("removeStep(" + figure + "," + step + ")", () -> show.removeStep(figure, step),
                        () -> model.removeStep(figure, step));
                break;
            case 20: case 21: {
                int wait = number(1, random.nextBoolean() ? 30 : 4);
                same("play(" + figure + "," + wait + ")", () -> show.play(figure, wait), () -> model.play(figure, wait));
                break;
            }
            case 22:
                same("cancel(" + entry + ")", () -> show.cancel(entry), () -> model.cancel(entry));
                break;
            case 23: {
                int beats = number(1, random.nextInt(4) == 0 ? 40 : 3);
                same("pass(" + beats + ")", () -> show.pass(beats), () -> model.pass(beats));
                break;
            }
            case 24:
                goBack();
                break;
            default:
                waiting = text();
                break;
        }
    }

    private void goBack() {
        int kind = random.nextInt(8);
        if (kind == 0) {
            same("save()", show::save, model::save);
        } else if (kind == 1) {
            same("restore()", show::restore, model::restore);
        } else {
            int times = random.nextInt(random.nextInt(4) == 0 ? 10 : 3);
            for (int time = 0; time < times; time++) {
                same("undo()", show::undo, model::undo);
                lookAtSome();
            }
        }
    }

    private void look() {
        int place = number(-30, 130);
        int beats = number(0, 40);
        int index = number(0, model.output.length() - 1);
        switch (random.nextInt(8)) {
            case 0:
                same("nearestLanding(" + place + ")", () -> show.nearestLanding(place), () -> model.nearestLanding(place));
                break;
            case 1:
                same("demandAfter(" + beats + ")", () -> show.demandAfter(beats), () -> model.demandAfter(beats));
                break;
            case 2:
                same("demandAfterBySteps(" + beats + ")", () -> show.demandAfterBySteps(beats), () -> model.demandAfter(beats));
                break;
            case 3:
                same("firstOverload(" + beats + ")", () -> show.firstOverload(beats), () -> model.firstOverload(beats));
                break;
            case 4:
                same("outputCharacter(" + index + ")", () -> show.outputCharacter(index), () -> model.outputCharacter(index));
                break;
            case 5:
                same("isConsistent()", show::isConsistent, () -> true);
                break;
            default:
                lookAtSome();
                break;
        }
    }

    private void lookAtSome() {
        switch (random.nextInt(4)) {
            case 0:
                lookAtNumbers();
                break;
            case 1:
                lookAtJet(jet());
                break;
            case 2:
                lookAtFigure(figure());
                break;
            default:
                lookAtEntry(entry());
                break;
        }
    }

    private void lookAtAll() {
        lookAtNumbers();
        for (int jet = -1; jet <= model.world.jets.size(); jet++) {
            lookAtJet(jet);
        }
        for (int entry = -1; entry <= model.world.queue.size(); entry++) {
            lookAtEntry(entry);
        }
        for (int figure = -1; figure <= model.world.figures.size(); figure++) {
            lookAtFigure(figure);
        }
    }

    private void lookAtNumbers() {
        same("jetCount()", show::jetCount, () -> model.world.jets.size());
        same("wildCount()", show::wildCount, () -> (int) model.world.jets.stream().filter(model.world::wild).count());
        same("highestJet()", show::highestJet, model::highestJet);
        same("crossings()", show::crossings, model::crossings);
        same("crossingsByMerging()", show::crossingsByMerging, model::crossings);
        same("capacity()", show::capacity, () -> model.world.capacity);
        same("wind()", show::wind, () -> model.world.wind);
        same("demand()", show::demand, () -> model.world.demand());
        same("supply()", show::supply, () -> model.world.supply());
        same("pumped()", show::pumped, () -> model.world.pumped);
        same("shortage()", show::shortage, () -> model.world.shortage);
        same("figureCount()", show::figureCount, () -> model.world.figures.size());
        same("beat()", show::beat, () -> model.world.beat);
        same("queueLength()", show::queueLength, () -> model.world.queue.size());
        same("beatsUntilEmpty()", show::beatsUntilEmpty, model::beatsUntilEmpty);
        same("meanOpening()", show::meanOpening, model::meanOpening);
        same("supplyFraction()", show::supplyFraction, model::supplyFraction);
        same("undoCount()", show::undoCount, () -> model.changes.size());
    }

    private void lookAtJet(int jet) {
        String by = "(" + jet + ")";
        same("position" + by, () -> show.position(jet), () -> model.world.jet(jet).position);
        same("opening" + by, () -> show.opening(jet), () -> model.world.jet(jet).opening);
        same("height" + by, () -> show.height(jet), () -> model.world.height(model.world.jet(jet)));
        same("landing" + by, () -> show.landing(jet), () -> model.world.landing(model.world.jet(jet)));
        same("isWild" + by, () -> show.isWild(jet), () -> model.world.wild(model.world.jet(jet)));
        same("jetByPosition" + by, () -> show.jetByPosition(jet), () -> model.jetByPosition(jet));
        same("figuresUsing" + by, () -> show.figuresUsing(jet), () -> model.figuresUsing(jet));
    }

    private void lookAtFigure(int figure) {
        String by = "(" + figure + ")";
        same("stepCount" + by, () -> show.stepCount(figure), () -> figureAt(figure).steps.size());
        same("figureLength" + by, () -> show.figureLength(figure), () -> figureAt(figure).length());
        same("writeFigure" + by, () -> show.writeFigure(figure), () -> model.writeFigure(figure));
        for (int index = 0; index <= model.output.length(); index++) {
            int place = index;
            same("outputCharacter(" + place + ")", () -> show.outputCharacter(place), () -> model.outputCharacter(place));
        }
        for (int index = -1; index <= 8; index++) {
            int step = index;
            String both = "(" + figure + "," + step + ")";
            same("stepDelay" + both, () -> show.stepDelay(figure, step), () -> model.world.step(figure, step).delay);
            same("stepJet" + both, () -> show.stepJet(figure, step),
                    () -> model.world.jets.indexOf(model.world.step(figure, step).jet));
            same("stepOpening" + both, () -> show.stepOpening(figure, step), () -> model.world.step(figure, step).opening);
        }
    }

    private Model.Figure figureAt(int figure) {
        if (figure < 0 || figure >= model.world.figures.size()) {
            throw new IndexOutOfBoundsException();
        }
        return model.world.figures.get(figure);
    }

    private Model.Entry entryAt(int entry) {
        if (entry < 0 || entry >= model.world.queue.size()) {
            throw new IndexOutOfBoundsException();
        }
        return model.world.queue.get(entry);
    }

    private void lookAtEntry(int entry) {
        same("entryFigure(" + entry + ")", () -> show.entryFigure(entry),
                () -> model.world.figures.indexOf(entryAt(entry).figure));
        same("entryStart(" + entry + ")", () -> show.entryStart(entry), () -> entryAt(entry).start);
    }

    /** Well-formed commands for the most part, at times with a sign changed, left out or put in. */
    private String text() {
        StringBuilder text = new StringBuilder();
        int commands = 1 + random.nextInt(5);
        for (int command = 0; command < commands; command++) {
            text.append(command == 0 ? "" : ";").append(command());
        }
        if (random.nextInt(2) == 0) {
            int place = random.nextInt(text.length() + 1);
            String part = PARTS[random.nextInt(PARTS.length)];
            switch (random.nextInt(4)) {
                case 0: text.insert(place, part); break;
                case 1: text.setLength(Math.max(1, place)); break;
                case 2: text.replace(place, Math.min(text.length(), place + part.length()), part); break;
                default: text.append(part); break;
            }
        }
        return text.substring(0, Math.min(text.length(), 62));
    }

    private String command() {
        String figure = "" + random.nextInt(random.nextInt(8) == 0 ? 10 : Math.max(1, model.world.figures.size()));
        String jet = "" + random.nextInt(random.nextInt(8) == 0 ? 10 : Math.max(1, model.world.jets.size()));
        String opening = random.nextInt(20) == 0 ? "11" : random.nextInt(5) == 0 ? "00" + random.nextInt(10) : "" + random.nextInt(11);
        switch (random.nextInt(9)) {
            case 0: return "jet " + random.nextInt(104);
            case 1: return "open " + jet + "=" + opening;
            case 2: return "pump " + random.nextInt(104);
            case 3: return "wind " + (random.nextBoolean() ? "+" : "-") + random.nextInt(10);
            case 4: return "trim";
            case 5: return "figure";
            case 6: return "step " + figure + "+" + random.nextInt(22) + ":" + jet + "=" + opening;
            case 7: return "play " + figure + "+" + random.nextInt(32);
            default: return "pass " + random.nextInt(random.nextInt(5) == 0 ? 43 : 4);
        }
    }
}
