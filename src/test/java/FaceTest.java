import java.lang.reflect.Constructor;
import java.lang.reflect.Field;
import java.lang.reflect.Method;
import java.lang.reflect.Modifier;
import java.nio.file.Files;
import java.nio.file.Path;
import java.util.ArrayList;
import java.util.Arrays;
import java.util.List;
import java.util.Set;
import java.util.TreeSet;
import java.util.regex.Matcher;
import java.util.regex.Pattern;
import java.util.stream.Collectors;

/** The face of the class is the document's, and the source keeps to those rules of LANGUAGE.md that a text shows. */
public final class FaceTest {
    private static final Path SOURCE = Path.of("src/main/java/FountainShow.java");
    /** Words and signs that the rules leave out, each as a regular expression over the source without comments. */
    private static final String[] RULED_OUT = {
        "^package ", "->", "::", "\\bfinally\\b", "\\bsynchronized\\b", "\\bassert\\b", "\\bcatch\\b", "\\btry\\b",
        "Exact\\b", "\\bordinal\\b", "\\bvalueOf\\b", "\\bnew Random\\b", "\\bThread\\b", "System\\.(?!arraycopy\\()",
        "\\bprotected\\b", "\\bstatic \\{", "\" \\+", "\\+ \"", "Math\\.(?!min\\(|max\\(|abs\\()", "\\bnull\\b",
        "\\bNaN\\b", "\\binstanceof\\b", "\\.equals\\(", "\\.hashCode\\(", "\\.toString\\(", "[^\\x00-\\x7f]"
    };

    private static int wrong = 0;

    private static void due(String what, Object want, Object got) {
        if (!want.equals(got)) {
            wrong++;
            System.out.println("face: " + what + "\n  is  " + got + "\n  due " + want);
        }
    }

    public static void main(String[] args) throws Exception {
        Path shared = Path.of(args.length > 0 ? args[0] : "../shared");
        faceIsTheDocuments(Files.readString(shared.resolve("DOC.md")));
        nothingElseIsOpen();
        noPrivateMethodBearsAPublicName();
        staticFieldsAreFinal();
        sourceKeepsToTheRules(Files.readString(SOURCE));
        methodsAreShort(Files.readString(SOURCE));
        System.out.println(wrong == 0 ? "face: as due" : "face: " + wrong + " not as due");
        if (wrong != 0) {
            System.exit(1);
        }
    }

    private static void faceIsTheDocuments(String document) {
        Set<String> want = new TreeSet<>();
        Matcher line = Pattern.compile("^    public (.*);$", Pattern.MULTILINE).matcher(document);
        while (line.find()) {
            want.add(line.group(1).replaceAll("\\b(int|char) \\w+([,)])", "$1$2"));
        }
        due("number of lines in the document", 60, want.size());
        Set<String> got = new TreeSet<>();
        for (Constructor<?> made : FountainShow.class.getDeclaredConstructors()) {
            due("the constructor is public", true, Modifier.isPublic(made.getModifiers()));
            got.add("FountainShow" + list(made.getParameterTypes(), made.getExceptionTypes()));
        }
        for (Method method : FountainShow.class.getDeclaredMethods()) {
            if (Modifier.isPublic(method.getModifiers())) {
                got.add(method.getReturnType().getSimpleName() + " " + method.getName()
                        + list(method.getParameterTypes(), method.getExceptionTypes()));
            }
        }
        due("the face", want, got);
    }

    private static String list(Class<?>[] parameters, Class<?>[] exceptions) {
        String thrown = names(exceptions);
        return "(" + names(parameters) + ")" + (thrown.isEmpty() ? "" : " throws " + thrown);
    }

    private static String names(Class<?>[] types) {
        return Arrays.stream(types).map(Class::getSimpleName).collect(Collectors.joining(", "));
    }

    private static void nothingElseIsOpen() {
        List<String> open = new ArrayList<>();
        for (Method method : FountainShow.class.getDeclaredMethods()) {
            int kind = method.getModifiers();
            if (!Modifier.isPublic(kind) && !Modifier.isPrivate(kind) && !method.isSynthetic()) {
                open.add(method.getName());
            }
        }
        for (Field field : FountainShow.class.getDeclaredFields()) {
            if (!Modifier.isPrivate(field.getModifiers()) && !field.isSynthetic()) {
                open.add(field.getName());
            }
        }
        for (Class<?> inside : FountainShow.class.getDeclaredClasses()) {
            int kind = inside.getModifiers();
            if (Modifier.isPublic(kind) || Modifier.isProtected(kind) || !Modifier.isStatic(kind)) {
                open.add(inside.getSimpleName());
            }
        }
        due("members beside the face", List.of(), open);
        due("public and final", Modifier.PUBLIC | Modifier.FINAL, FountainShow.class.getModifiers());
    }

    private static void noPrivateMethodBearsAPublicName() {
        Set<String> face = new TreeSet<>();
        for (Method method : FountainShow.class.getDeclaredMethods()) {
            if (Modifier.isPublic(method.getModifiers())) {
                face.add(method.getName());
            }
        }
        List<String> twice = new ArrayList<>();
        for (Class<?> owner : owners()) {
            for (Method method : owner.getDeclaredMethods()) {
                boolean isOwn = !method.isSynthetic() && !(owner == FountainShow.class && Modifier.isPublic(method.getModifiers()));
                if (isOwn && face.contains(method.getName())) {
                    twice.add(owner.getSimpleName() + "." + method.getName());
                }
            }
        }
        due("own methods with a name of the face", List.of(), twice);
    }

    private static List<Class<?>> owners() {
        List<Class<?>> owners = new ArrayList<>(List.of(FountainShow.class.getDeclaredClasses()));
        owners.add(FountainShow.class);
        return owners;
    }

    private static void staticFieldsAreFinal() {
        List<String> loose = new ArrayList<>();
        for (Class<?> owner : owners()) {
            int fields = 0;
            for (Field field : owner.getDeclaredFields()) {
                boolean isStatic = Modifier.isStatic(field.getModifiers());
                if (isStatic && !Modifier.isFinal(field.getModifiers())) {
                    loose.add(field.getName());
                }
                fields += isStatic ? 0 : 1;
            }
            due("at most 20 fields in " + owner.getSimpleName(), true, fields <= 20);
        }
        due("static fields that are not final", List.of(), loose);
        due("at most 12 classes", true, owners().size() <= 12);
    }

    private static void sourceKeepsToTheRules(String source) {
        String code = source.replaceAll("(?s)/\\*.*?\\*/", "").replaceAll("//[^\n]*", "");
        for (String ruledOut : RULED_OUT) {
            Matcher matcher = Pattern.compile(ruledOut, Pattern.MULTILINE).matcher(code);
            due("text that fits " + ruledOut, false, matcher.find());
        }
        List<String> imports = new ArrayList<>();
        Matcher imported = Pattern.compile("^import (.*);$", Pattern.MULTILINE).matcher(code);
        while (imported.find()) {
            imports.add(imported.group(1));
        }
        due("imports", List.of("java.util.NoSuchElementException"), imports);
    }

    /** A method goes from the last line with the indent of its closing bracket to that bracket. */
    private static void methodsAreShort(String source) {
        String[] lines = source.split("\n");
        int methods = 0;
        for (String indent : List.of("    ", "        ")) {
            int start = 0;
            for (int line = 0; line < lines.length; line++) {
                boolean isClosing = lines[line].equals(indent + "}");
                if (isClosing && !lines[start].matches(".* (class|enum) .*")) {
                    methods++;
                    due("at most 60 lines:" + lines[start], true, line - start + 1 <= 60);
                }
                start = lines[line].matches(indent + "\\S.*") ? line : start;
            }
        }
        int written = 0;
        for (Class<?> owner : owners()) {
            for (Method method : owner.getDeclaredMethods()) {
                due("at most 7 parameters: " + method.getName(), true, method.getParameterCount() <= 7);
                written += method.isSynthetic() || owner.isEnum() ? 0 : 1;
            }
        }
        due("each method is among the " + methods + " blocks found", true, methods >= written);
    }
}
