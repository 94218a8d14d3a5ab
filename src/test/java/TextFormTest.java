import java.util.ArrayList;
import java.util.List;

/**
 * The form of texts, compared with a list of all the forms that a command may have: each well-formed text below is
 * cut off, and has each of its signs replaced, left out and preceded by each other one.
 */
public final class TextFormTest {
    private static final String[] TEXTS = {"jet 0", "jet 12", "jet 999", "open 9=10", "open 0=007", "pump 1", "pump 100", "wind +9",
        "wind -0", "trim", "figure", "step 0+0:0=0", "step 9+20:8=10", "step 1+123:2=456", "play 3+1", "play 4+030", "pass 5",
        "pass 40", "jet 5;jet 6", "figure;step 0+1:0=1;play 0+1", "pump 9;wind +1;trim", "trim;pass 1;jet 7;figure"};
    /** One sign after the digits and one before them, letters either way, and signs that look like others elsewhere. */
    private static final String FAR_SIGNS = "\u0130\u0131\u0660\u0665\u0966\u2212\uff0b\uff10\uff1b\uff1d\uffff\u3000\u212a\u017f";

    private static final List<String> FORMS = forms();
    private static int wrong = 0;

    private TextFormTest() {
    }

    public static void main(String[] args) {
        int texts = 0;
        for (String text : TEXTS) {
            for (int index = 0; index <= text.length(); index++) {
                texts += changedAt(text, index);
            }
        }
        texts += atSixty();
        System.out.println("forms: " + texts + " texts, " + wrong + " answers not as due");
        if (wrong != 0) {
            System.exit(1);
        }
    }

    /** In a form 9 stands for any digit. */
    private static List<String> forms() {
        List<String> forms = new ArrayList<>(List.of("wind +9", "wind -9", "trim", "figure"));
        for (String number : List.of("9", "99", "999")) {
            forms.addAll(List.of("jet " + number, "open 9=" + number, "pump " + number, "play 9+" + number, "pass " + number));
            for (String opening : List.of("9", "99", "999")) {
                forms.add("step 9+" + number + ":9=" + opening);
            }
        }
        return forms;
    }

    private static int changedAt(String text, int index) {
        String before = text.substring(0, index);
        String behind = text.substring(Math.min(index + 1, text.length()));
        check(before);
        check(before + behind);
        int texts = 2;
        for (char sign = 0; sign < 256 + FAR_SIGNS.length(); sign++) {
            char put = sign < 256 ? sign : FAR_SIGNS.charAt(sign - 256);
            check(before + put + behind);
            check(before + put + text.substring(index));
            texts += 2;
        }
        return texts;
    }

    /** Texts that fill the input buffer, and those that are one short of it. */
    private static int atSixty() {
        String full = Shows.FULL_TEXT;
        check(full);
        check(full.substring(0, 59));
        check(full.substring(0, 59) + ";");
        check("trim;".repeat(12));
        check("trim;".repeat(11) + "trim");
        check("trim;".repeat(11) + "jet 1");
        check("trim;".repeat(11) + "jet 1".substring(0, 4));
        check("trim;".repeat(11) + "figur");
        check(";".repeat(60));
        check("1".repeat(60));
        return 10;
    }

    private static void check(String text) {
        FountainShow show = Shows.feed(new FountainShow(), text);
        String answer = Checks.outcome(show, FountainShow::execute);
        boolean isRefused = answer.equals(Checks.thrown(IllegalArgumentException.class));
        int got = isRefused ? show.errorPosition() : -1;
        int want = errorPosition(text);
        if (got != want) {
            wrong++;
            System.out.println("\"" + text + "\": error position " + got + ", due is " + want + " (-1 stands for none)");
        }
    }

    private static int errorPosition(String text) {
        if (isWellFormed(text)) {
            return -1;
        }
        int position = 0;
        while (position < text.length() && canGoOn(text.substring(0, position + 1))) {
            position++;
        }
        return position;
    }

    private static boolean isWellFormed(String text) {
        for (String command : commands(text)) {
            if (!FORMS.contains(command)) {
                return false;
            }
        }
        return true;
    }

    private static boolean canGoOn(String start) {
        String[] commands = commands(start);
        for (int index = 0; index < commands.length - 1; index++) {
            if (!FORMS.contains(commands[index])) {
                return false;
            }
        }
        String last = commands[commands.length - 1];
        return FORMS.stream().anyMatch(form -> form.startsWith(last));
    }

    private static String[] commands(String text) {
        return text.replaceAll("[0-9]", "9").split(";", -1);
    }
}
