import java.util.HashSet;
import java.util.NoSuchElementException;
import java.util.Set;

/**
 * Tells for every short text, and for every short ending of some longer ones, whether it is a question and where
 * its fault is, by the rules of the language as the document words them: what may still come is kept as rows of
 * pending parts, all at once, and a sign that none of them begins with cannot stand there.
 */
public final class ShortTextsTest {
    private static final String SIGNS = "a1 \"*~+-[],()";
    private static final int CALLS = 512;
    private static final int MOST_PRINTED = 20;
    // A small letter of a rule stands for any letter of the alphabet, a digit for any digit.
    private static final String[][] RULES = {
        {"Q", "BCR"},
        {"B", "", " B"},
        {"R", "B", " BCR"},
        {"C", "K", "+K", "-K"},
        {"K", "W", "W*", "W~", "\"BWP", "[N,N]", "(Q)"},
        {"W", "a", "aW"},
        {"P", " BWP", "B\"S"},
        {"S", "", "~1"},
        {"N", "1", "11", "111"},
    };
    private static int wrong = 0;
    private static int texts = 0;
    private static int calls = CALLS;
    private static Quillroom room = null;

    public static void main(String[] args) {
        int longest = args.length > 0 ? Integer.parseInt(args[0]) : 5;
        goOn("", longest);
        String[] beginnings = {"\"a ", "\"a b\"~", "\"a\"~1", "[1,", "[111,", "[12,345]", "(a (", "(a -(b)", "+(a ", "a -",
            "ab* ", "\"a", "((a) "};
        for (String beginning : beginnings) {
            goOn(beginning, longest - 2);
        }
        System.out.println(wrong == 0 ? texts + " texts are read as due" : wrong + " texts are not read as due");
        if (wrong != 0) {
            System.exit(1);
        }
    }

    private static void goOn(String text, int more) {
        compare(text);
        for (int i = 0; i < SIGNS.length() && more > 0; i++) {
            goOn(text + SIGNS.charAt(i), more - 1);
        }
    }

    private static void compare(String text) {
        texts++;
        int due = faultOf(text);
        int got = faultTold(text);
        if (got != due) {
            wrong++;
            if (wrong <= MOST_PRINTED) {
                System.out.println("the fault of |" + text + "| is told at " + got + ", due is " + due);
            }
        }
    }

    /** The place that the class tells, or -1 for a question. */
    private static int faultTold(String text) {
        calls += text.length() + 2;
        if (calls > CALLS) {
            room = new Quillroom();
            calls = text.length() + 2;
        }
        room.erase();
        for (int i = 0; i < text.length(); i++) {
            room.type(text.charAt(i));
        }
        try {
            return room.fault();
        } catch (NoSuchElementException e) {
            return -1;
        }
    }

    /** The place of the fault by the rules, or -1 for a question. */
    private static int faultOf(String text) {
        Set<String> pending = unfolded("Q");
        for (int i = 0; i < text.length(); i++) {
            Set<String> behind = new HashSet<>();
            for (String row : pending) {
                if (!row.isEmpty() && row.charAt(0) == kindOf(text.charAt(i))) {
                    behind.addAll(unfolded(row.substring(1)));
                }
            }
            if (behind.isEmpty()) {
                return i;
            }
            pending = behind;
        }
        return pending.contains("") ? -1 : text.length();
    }

    private static char kindOf(char sign) {
        return sign >= 'a' && sign <= 'z' ? 'a' : sign >= '0' && sign <= '9' ? '1' : sign;
    }

    /** All rows that begin with a sign, or are empty, and that a row of pending parts stands for. */
    private static Set<String> unfolded(String row) {
        Set<String> found = new HashSet<>();
        if (row.isEmpty() || !Character.isUpperCase(row.charAt(0))) {
            found.add(row);
            return found;
        }
        for (String[] rule : RULES) {
            for (int i = 1; i < rule.length && rule[0].charAt(0) == row.charAt(0); i++) {
                found.addAll(unfolded(rule[i] + row.substring(1)));
            }
        }
        return found;
    }
}
