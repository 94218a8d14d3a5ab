import java.util.Map;
import java.util.Set;
import java.util.TreeSet;
import java.util.function.Supplier;

/** What the tests of single sentences share: they tell, under the sentence, what is not as due. */
final class Checks {
    /** A call on a show; how it is made is up to the test. */
    interface Call {
        Object on(FountainShow show);
    }

    private static final Set<String> tested = new TreeSet<>();
    private static String sentence = "";
    private static int wrong = 0;

    private Checks() {
    }

    /** Runs the test of a sentence of the document. */
    static void sentence(String text, Runnable test) {
        sentence = text;
        tested.add(text);
        test.run();
    }

    /** The same for a sentence under a promise. */
    static void promise(int number, String text, Runnable test) {
        sentence(number + ": " + text, test);
    }

    /** The end of a test's main method: the sentences tested have to be those of the document. */
    static void finish(String name, Set<String> sentences) {
        sentence = "each sentence has a test";
        Set<String> untested = new TreeSet<>(sentences);
        untested.removeAll(tested);
        due(Set.of(), untested);
        Set<String> unsaid = new TreeSet<>(tested);
        unsaid.removeAll(sentences);
        due(Set.of(), unsaid);
        System.out.println(name + ": " + tested.size() + " sentences, " + wrong + " answers not as due");
        if (wrong != 0) {
            System.exit(1);
        }
    }

    static void due(Object want, Object got) {
        if (!want.equals(got)) {
            wrong++;
            System.out.println("\"" + sentence + "\", " + place() + ": answered " + got + ", due is " + want);
        }
    }

    /** The line of the test, which is the first behind those of the helpers. */
    private static String place() {
        for (StackTraceElement frame : new Throwable().getStackTrace()) {
            if (!frame.getClassName().equals(Checks.class.getName())) {
                return frame.getClassName() + " line " + frame.getLineNumber();
            }
        }
        return "nowhere";
    }

    /** The call is refused with just this exception, and leaves everything as it was. */
    static void refused(Class<?> exception, Supplier<FountainShow> made, Call call) {
        due(thrown(exception), outcome(made.get(), call));
        unchanged(made, call);
    }

    static void allowed(Supplier<FountainShow> made, Call call) {
        due(false, outcome(made.get(), call).startsWith("throws "));
    }

    static void unchanged(Supplier<FountainShow> made, Call call) {
        same(Looks.at(made), Looks.at(after(made, call)));
    }

    /** A show on which one more call has been made, whatever it answered. */
    static Supplier<FountainShow> after(Supplier<FountainShow> made, Call call) {
        return () -> {
            FountainShow show = made.get();
            outcome(show, call);
            return show;
        };
    }

    static void same(Map<String, String> want, Map<String, String> got) {
        Set<String> names = new TreeSet<>(want.keySet());
        names.addAll(got.keySet());
        for (String name : names) {
            due(name + ": " + want.get(name), name + ": " + got.get(name));
        }
    }

    static String thrown(Class<?> exception) {
        return "throws " + exception.getName();
    }

    static String outcome(FountainShow show, Call call) {
        try {
            return String.valueOf(call.on(show));
        } catch (RuntimeException e) {
            return thrown(e.getClass());
        }
    }
}
