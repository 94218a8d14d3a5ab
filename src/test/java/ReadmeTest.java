import java.io.IOException;
import java.lang.reflect.InvocationTargetException;
import java.lang.reflect.Method;
import java.lang.reflect.Modifier;
import java.nio.charset.StandardCharsets;
import java.nio.file.Files;
import java.nio.file.Path;
import java.util.ArrayList;
import java.util.Comparator;
import java.util.List;
import java.util.Set;
import java.util.TreeSet;
import java.util.regex.MatchResult;
import java.util.regex.Pattern;
import java.util.stream.Collectors;
import java.util.stream.Stream;

/** README.md, followed word for word on a copy of the checkout, and what it says of the calls, commands and tests. */
public final class ReadmeTest {
    private static final Pattern BLOCK = Pattern.compile("^```(\\w+)\n(.*?)^```$", Pattern.MULTILINE | Pattern.DOTALL);
    private static final Pattern PROGRAM_FILE = Pattern.compile("to be put into the file `(\\w+\\.java)`");
    private static final Pattern COMMAND_ROW = Pattern.compile("^\\| `([^`]+)` \\| `(\\w+)\\(([^)]*)\\)` \\|$", Pattern.MULTILINE);
    private static final Pattern TEST_ROW = Pattern.compile("^- `(\\w+Test)`: ", Pattern.MULTILINE);
    /** This test is a part of that run, which would therefore never end. */
    private static final String WHOLE_RUN = ".ci/run";

    private static int wrong = 0;

    private ReadmeTest() {
    }

    public static void main(String[] args) throws Exception {
        String readme = Files.readString(Path.of("README.md"));
        follow(readme, Path.of(args.length > 0 ? args[0] : "../shared"));
        namesEachCall(readme);
        commandsDoTheSameAsCalls(readme);
        namesEachTest(readme);
        due("the whole run can be started", true, Files.isExecutable(Path.of(WHOLE_RUN)));
        System.out.println(wrong == 0 ? "readme: as due" : "readme: " + wrong + " not as due");
        if (wrong != 0) {
            System.exit(1);
        }
    }

    private static void due(String what, Object want, Object got) {
        if (!want.equals(got)) {
            wrong++;
            System.out.println("readme: " + what + "\n  is  " + got + "\n  due " + want);
        }
    }

    private static List<MatchResult> all(Pattern pattern, String text) {
        return pattern.matcher(text).results().collect(Collectors.toList());
    }

    // The blocks: a program goes into its file, commands are given, a text is what the commands before it print.

    private static void follow(String readme, Path shared) throws IOException, InterruptedException {
        Path folder = Files.createTempDirectory("readme");
        try {
            Path checkout = Files.createDirectory(folder.resolve("checkout"));
            Files.createSymbolicLink(folder.resolve("shared"), shared.toRealPath());
            copy(Path.of("src"), checkout);
            List<MatchResult> names = all(PROGRAM_FILE, readme);
            due("number of files to be written", 1, names.size());
            String printed = "";
            Set<String> kinds = new TreeSet<>();
            for (MatchResult block : all(BLOCK, readme)) {
                kinds.add(block.group(1));
                switch (block.group(1)) {
                    case "java":
                        Files.writeString(checkout.resolve(names.get(0).group(1)), block.group(2));
                        break;
                    case "sh":
                        printed = give(block.group(2), checkout);
                        break;
                    default:
                        due("what the commands print", block.group(2), printed);
                        break;
                }
            }
            due("kinds of blocks", Set.of("java", "sh", "text"), kinds);
        } finally {
            remove(folder);
        }
    }

    private static String give(String commands, Path checkout) throws IOException, InterruptedException {
        if (commands.trim().equals(WHOLE_RUN)) {
            return "";
        }
        Process process = new ProcessBuilder("sh", "-e", "-c", commands).directory(checkout.toFile())
                .redirectError(ProcessBuilder.Redirect.INHERIT).start();
        String printed = new String(process.getInputStream().readAllBytes(), StandardCharsets.UTF_8);
        due("exit code of\n" + commands + "which prints\n" + printed, 0, process.waitFor());
        return printed;
    }

    private static void copy(Path folder, Path into) throws IOException {
        for (Path path : below(folder)) {
            Path to = into.resolve(path.toString());
            if (Files.isDirectory(path)) {
                Files.createDirectory(to);
            } else {
                Files.copy(path, to);
            }
        }
    }

    private static void remove(Path folder) throws IOException {
        List<Path> paths = new ArrayList<>(below(folder));
        paths.sort(Comparator.reverseOrder());
        for (Path path : paths) {
            Files.delete(path);
        }
    }

    /** A folder comes before what is in it; links are not followed. */
    private static List<Path> below(Path folder) throws IOException {
        try (Stream<Path> paths = Files.walk(folder)) {
            return paths.collect(Collectors.toList());
        }
    }

    // What the page says.

    private static void namesEachCall(String readme) {
        String calls = readme.substring(readme.indexOf("### The calls"), readme.indexOf("### The commands"));
        Set<String> missing = new TreeSet<>();
        for (Method method : FountainShow.class.getDeclaredMethods()) {
            boolean isOfTheFace = Modifier.isPublic(method.getModifiers());
            if (isOfTheFace && !calls.contains("`" + method.getName() + "`")) {
                missing.add(method.getName());
            }
        }
        due("calls that are not named", Set.of(), missing);
    }

    private static void commandsDoTheSameAsCalls(String readme) throws ReflectiveOperationException {
        Set<String> keywords = new TreeSet<>();
        for (MatchResult row : all(COMMAND_ROW, readme)) {
            String text = row.group(1);
            keywords.add(text.split(" ")[0]);
            FountainShow byCall = readyShow();
            call(byCall, row.group(2), row.group(3));
            FountainShow byText = readyShow();
            due("answer to " + text, "1", Shows.run(byText, text));
            due("state after " + text, Looks.state(byCall), Looks.state(byText));
            due("something changes with " + text, false, Looks.state(byText).equals(Looks.state(readyShow())));
        }
        due("keywords of the commands", Set.of("jet", "open", "pump", "wind", "trim", "figure", "step", "play", "pass"), keywords);
    }

    /** A show on which each command of the page changes something. */
    private static FountainShow readyShow() {
        FountainShow show = Shows.openJets(40, 99);
        show.setOpening(0, 5);
        show.setWind(2);
        show.addFigure();
        return show;
    }

    private static void call(FountainShow show, String name, String arguments) throws ReflectiveOperationException {
        String[] texts = arguments.isEmpty() ? new String[0] : arguments.split(", ");
        Class<?>[] types = new Class<?>[texts.length];
        Object[] numbers = new Object[texts.length];
        for (int index = 0; index < texts.length; index++) {
            types[index] = int.class;
            numbers[index] = Integer.valueOf(texts[index]);
        }
        try {
            FountainShow.class.getMethod(name, types).invoke(show, numbers);
        } catch (InvocationTargetException e) {
            due("exception of " + name + "(" + arguments + ")", "none", e.getCause().toString());
        }
    }

    private static void namesEachTest(String readme) throws IOException {
        Set<String> named = new TreeSet<>();
        for (MatchResult row : all(TEST_ROW, readme)) {
            named.add(row.group(1) + ".java");
        }
        Set<String> present = new TreeSet<>();
        for (Path path : below(Path.of("src/test/java"))) {
            String name = path.getFileName().toString();
            if (name.endsWith("Test.java")) {
                present.add(name);
            }
        }
        due("tests in src/test/java", named, present);
    }
}
