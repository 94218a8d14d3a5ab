import java.util.ArrayDeque;
import java.util.ArrayList;
import java.util.Comparator;
import java.util.Deque;
import java.util.HashMap;
import java.util.List;
import java.util.Map;
import java.util.NoSuchElementException;
import java.util.regex.Matcher;
import java.util.regex.Pattern;

/**
 * A second fountain, written from the document alone and by other means than the class: objects that refer
 * to one another in place of indices, lists in place of rows, a regular expression in place of a reader.
 */
public final class Model {
    static final class Jet {
        int position;
        int opening;
    }

    static final class Step {
        int delay;
        Jet jet;
        int opening;
    }

    static final class Figure {
        List<Step> steps = new ArrayList<>();

        int length() {
            return steps.stream().mapToInt(step -> step.delay).max().orElse(0);
        }
    }

    static final class Entry {
        Figure figure;
        int start;
    }

    static final class World {
        List<Jet> jets = new ArrayList<>();
        List<Figure> figures = new ArrayList<>();
        List<Entry> queue = new ArrayList<>();
        int capacity = 40;
        int wind = 0;
        int beat = 0;
        long pumped = 0;
        long shortage = 0;

        World copy() {
            World copy = new World();
            Map<Jet, Jet> newJets = new HashMap<>();
            for (Jet jet : jets) {
                Jet other = new Jet();
                other.position = jet.position;
                other.opening = jet.opening;
                newJets.put(jet, other);
                copy.jets.add(other);
            }
            Map<Figure, Figure> newFigures = new HashMap<>();
            for (Figure figure : figures) {
                Figure other = new Figure();
                for (Step step : figure.steps) {
                    Step otherStep = new Step();
                    otherStep.delay = step.delay;
                    otherStep.jet = newJets.get(step.jet);
                    otherStep.opening = step.opening;
                    other.steps.add(otherStep);
                }
                newFigures.put(figure, other);
                copy.figures.add(other);
            }
            for (Entry entry : queue) {
                Entry other = new Entry();
                other.figure = newFigures.get(entry.figure);
                other.start = entry.start;
                copy.queue.add(other);
            }
            copy.capacity = capacity;
            copy.wind = wind;
            copy.beat = beat;
            copy.pumped = pumped;
            copy.shortage = shortage;
            return copy;
        }

        int demand() {
            return jets.stream().mapToInt(jet -> jet.opening).sum();
        }

        int supply() {
            int demand = demand();
            return capacity < demand ? capacity : demand;
        }

        int height(Jet jet) {
            int demand = demand();
            return demand <= capacity ? 10 * jet.opening : Math.floorDiv(10 * jet.opening * capacity, demand);
        }

        int landing(Jet jet) {
            int product = height(jet) * wind;
            int drift = Math.floorDiv(Math.abs(product), 20);
            return product < 0 ? jet.position - drift : jet.position + drift;
        }

        boolean wild(Jet jet) {
            return landing(jet) < 0 || landing(jet) > 99;
        }

        int trim() {
            int before = demand();
            while (true) {
                Jet first = jets.stream().filter(this::wild).findFirst().orElse(null);
                if (first == null) {
                    return before - demand();
                }
                first.opening--;
            }
        }

        int pass() {
            beat++;
            for (Entry entry : queue) {
                for (Step step : entry.figure.steps) {
                    if (beat - entry.start == step.delay) {
                        step.jet.opening = step.opening;
                    }
                }
            }
            int before = queue.size();
            queue.removeIf(entry -> entry.start + entry.figure.length() <= beat);
            pumped += supply();
            shortage += demand() - supply();
            return before - queue.size();
        }

        Jet jet(int jet) {
            return at(jets, jet);
        }

        Step step(int figure, int step) {
            return at(at(figures, figure).steps, step);
        }

        int addJet(int position) {
            range(position, 0, 99);
            if (jets.stream().anyMatch(jet -> jet.position == position)) {
                throw new UnsupportedOperationException();
            }
            room(jets, 10);
            Jet jet = new Jet();
            jet.position = position;
            jets.add(jet);
            return jets.size() - 1;
        }

        int removeJet(int jet) {
            Jet gone = jet(jet);
            jets.remove(gone);
            int removed = 0;
            for (Figure figure : figures) {
                int before = figure.steps.size();
                figure.steps.removeIf(step -> step.jet == gone);
                removed += before - figure.steps.size();
            }
            return removed;
        }

        int setOpening(int jet, int opening) {
            Jet changed = jet(jet);
            range(opening, 0, 10);
            int previous = changed.opening;
            changed.opening = opening;
            return previous;
        }

        int setCapacity(int capacity) {
            range(capacity, 0, 100);
            int previous = this.capacity;
            this.capacity = capacity;
            return previous;
        }

        int setWind(int wind) {
            range(wind, -9, 9);
            int previous = this.wind;
            this.wind = wind;
            return previous;
        }

        int addFigure() {
            room(figures, 5);
            figures.add(new Figure());
            return figures.size() - 1;
        }

        int removeFigure(int figure) {
            Figure gone = at(figures, figure);
            if (queue.stream().anyMatch(entry -> entry.figure == gone)) {
                throw new IllegalStateException();
            }
            figures.remove(gone);
            return gone.steps.size();
        }

        int addStep(int figure, int delay, int jet, int opening) {
            Figure changed = at(figures, figure);
            Step step = new Step();
            step.jet = jet(jet);
            range(delay, 0, 20);
            range(opening, 0, 10);
            room(changed.steps, 8);
            step.delay = delay;
            step.opening = opening;
            changed.steps.add(step);
            return changed.steps.size();
        }

        int removeStep(int figure, int step) {
            Step gone = step(figure, step);
            figures.get(figure).steps.remove(gone);
            return figures.get(figure).steps.size();
        }

        int play(int figure, int wait) {
            Entry entry = new Entry();
            entry.figure = at(figures, figure);
            range(wait, 1, 30);
            room(queue, 6);
            entry.start = beat + wait;
            queue.add(entry);
            return entry.start;
        }

        int cancel(int entry) {
            Entry gone = at(queue, entry);
            queue.remove(gone);
            return gone.start;
        }

        int pass(int beats) {
            range(beats, 1, 40);
            int finished = 0;
            for (int passed = 0; passed < beats; passed++) {
                finished += pass();
            }
            return finished;
        }
    }

    World world = new World();
    World saved = null;
    Deque<World> changes = new ArrayDeque<>();
    StringBuilder input = new StringBuilder();
    String output = "";
    int errorPosition = -1;
    int failedCommand = -1;

    interface Change {
        int make(World world);
    }

    private int change(Change change) {
        World before = world.copy();
        int answer;
        try {
            answer = change.make(world);
        } catch (RuntimeException e) {
            world = before;
            throw e;
        }
        changes.push(before);
        if (changes.size() > 8) {
            changes.removeLast();
        }
        return answer;
    }

    private static void range(int number, int least, int most) {
        if (number < least || number > most) {
            throw new IllegalArgumentException();
        }
    }

    private static void room(List<?> list, int most) {
        if (list.size() >= most) {
            throw new IllegalStateException();
        }
    }

    private static <T> T at(List<T> list, int index) {
        if (index < 0 || index >= list.size()) {
            throw new IndexOutOfBoundsException();
        }
        return list.get(index);
    }

    private void needJets() {
        if (world.jets.isEmpty()) {
            throw new NoSuchElementException();
        }
    }

    int highestJet() {
        needJets();
        return world.jets.indexOf(world.jets.stream().max(Comparator.<Jet>comparingInt(world::height)
                .thenComparingInt(jet -> -world.jets.indexOf(jet))).get());
    }

    int jetByPosition(int rank) {
        List<Jet> sorted = new ArrayList<>(world.jets);
        sorted.sort(Comparator.comparingInt(jet -> jet.position));
        if (rank < 0 || rank >= sorted.size()) {
            throw new NoSuchElementException();
        }
        return world.jets.indexOf(sorted.get(rank));
    }

    int nearestLanding(int place) {
        needJets();
        return world.jets.indexOf(world.jets.stream().min(Comparator.<Jet>comparingLong(
                jet -> Math.abs((long) world.landing(jet) - place))
                .thenComparingInt(jet -> world.jets.indexOf(jet))).get());
    }

    int crossings() {
        int pairs = 0;
        for (Jet jet : world.jets) {
            for (Jet other : world.jets) {
                if (jet.position < other.position && world.landing(jet) > world.landing(other)) {
                    pairs++;
                }
            }
        }
        return pairs;
    }

    int figuresUsing(int jet) {
        Jet used = world.jet(jet);
        return (int) world.figures.stream().filter(figure ->
                figure.steps.stream().anyMatch(step -> step.jet == used)).count();
    }

    int beatsUntilEmpty() {
        World copy = world.copy();
        int beats = 0;
        while (!copy.queue.isEmpty()) {
            copy.pass();
            beats++;
        }
        return beats;
    }

    int demandAfter(int beats) {
        range(beats, 0, 40);
        World copy = world.copy();
        for (int passed = 0; passed < beats; passed++) {
            copy.pass();
        }
        return copy.demand();
    }

    int firstOverload(int beats) {
        range(beats, 0, 40);
        for (int passed = 1; passed <= beats; passed++) {
            if (demandAfter(passed) > world.capacity) {
                return passed;
            }
        }
        throw new NoSuchElementException();
    }

    double meanOpening() {
        if (world.jets.isEmpty()) {
            throw new ArithmeticException();
        }
        return (double) world.demand() / world.jets.size();
    }

    float supplyFraction() {
        if (world.demand() == 0) {
            throw new ArithmeticException();
        }
        return (float) world.supply() / world.demand();
    }

    int writeFigure(int figure) {
        List<String> parts = new ArrayList<>();
        for (Step step : at(world.figures, figure).steps) {
            parts.add(step.delay + ":" + world.jets.indexOf(step.jet) + "=" + step.opening);
        }
        output = String.join(" ", parts);
        return output.length();
    }

    char outputCharacter(int index) {
        if (index < 0 || index >= output.length()) {
            throw new IndexOutOfBoundsException();
        }
        return output.charAt(index);
    }

    int feed(char character) {
        if (input.length() >= 60) {
            throw new IllegalStateException();
        }
        return input.append(character).length();
    }

    private static final String ONE = "(?:jet [0-9]{1,3}|open [0-9]=[0-9]{1,3}|pump [0-9]{1,3}|wind [+-][0-9]|trim|figure"
            + "|step [0-9]\\+[0-9]{1,3}:[0-9]=[0-9]{1,3}|play [0-9]\\+[0-9]{1,3}|pass [0-9]{1,3})";
    private static final Pattern TEXT = Pattern.compile(ONE + "(?:;" + ONE + ")*");

    /** The longest start of the text that could still go on to a well-formed one. */
    static int errorPositionOf(String text) {
        int position = 0;
        for (int length = 0; length <= text.length(); length++) {
            Matcher matcher = TEXT.matcher(text.substring(0, length));
            if (matcher.matches() || matcher.hitEnd()) {
                position = length;
            }
        }
        return position;
    }

    int execute() {
        String text = input.toString();
        input.setLength(0);
        if (!TEXT.matcher(text).matches()) {
            errorPosition = errorPositionOf(text);
            throw new IllegalArgumentException();
        }
        String[] commands = text.split(";");
        World trial = world.copy();
        for (int index = 0; index < commands.length; index++) {
            try {
                perform(trial, commands[index]);
            } catch (RuntimeException e) {
                failedCommand = index;
                throw new UnsupportedOperationException();
            }
        }
        change(ignored -> 0);
        world = trial;
        return commands.length;
    }

    private static void perform(World trial, String command) {
        String[] words = command.split("[ +:=]+");
        int[] n = new int[5];
        for (int word = 1; word < words.length; word++) {
            n[word] = Integer.parseInt(words[word]);
        }
        switch (words[0]) {
            case "jet": trial.addJet(n[1]); break;
            case "open": trial.setOpening(n[1], n[2]); break;
            case "pump": trial.setCapacity(n[1]); break;
            case "wind": trial.setWind(n[1]); break;
            case "trim": trial.trim(); break;
            case "figure": trial.addFigure(); break;
            case "step": trial.addStep(n[1], n[2], n[3], n[4]); break;
            case "play": trial.play(n[1], n[2]); break;
            default: trial.pass(n[1]); break;
        }
    }

    int kept(int number) {
        if (number < 0) {
            throw new NoSuchElementException();
        }
        return number;
    }

    int undo() {
        if (changes.isEmpty()) {
            throw new IllegalStateException();
        }
        world = changes.pop();
        return changes.size();
    }

    int save() {
        saved = world.copy();
        return world.jets.size();
    }

    int restore() {
        if (saved == null) {
            throw new IllegalStateException();
        }
        world = saved.copy();
        changes.clear();
        return world.jets.size();
    }

    int addJet(int position) {
        return change(world -> world.addJet(position));
    }

    int removeJet(int jet) {
        return change(world -> world.removeJet(jet));
    }

    int setOpening(int jet, int opening) {
        return change(world -> world.setOpening(jet, opening));
    }

    int setCapacity(int capacity) {
        return change(world -> world.setCapacity(capacity));
    }

    int setWind(int wind) {
        return change(world -> world.setWind(wind));
    }

    int trim() {
        return change(World::trim);
    }

    int addFigure() {
        return change(World::addFigure);
    }

    int removeFigure(int figure) {
        return change(world -> world.removeFigure(figure));
    }

    int addStep(int figure, int delay, int jet, int opening) {
        return change(world -> world.addStep(figure, delay, jet, opening));
    }

    int removeStep(int figure, int step) {
        return change(world -> world.removeStep(figure, step));
    }

    int play(int figure, int wait) {
        return change(world -> world.play(figure, wait));
    }

    int cancel(int entry) {
        return change(world -> world.cancel(entry));
    }

    int pass(int beats) {
        return change(world -> world.pass(beats));
    }
}
