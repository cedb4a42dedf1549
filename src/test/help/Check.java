import java.io.IOException;
import java.nio.charset.StandardCharsets;
import java.nio.file.Files;
import java.nio.file.Path;
import java.util.LinkedHashSet;
import java.util.Set;

/**
 * What the tests of single sentences share. Each sentence of the document has one case of its own,
 * which is named by the number of its promise, 0 for the terms, and by the sentence's own words.
 */
abstract class Check {
    /** The checks of one sentence. */
    interface Case {
        void run();
    }

    /** What is done with an object. */
    interface Use {
        void on(Quillroom x);
    }

    static final int TERMS = 0;
    private static final int PROMISES = 37;
    private static final String[] SECTIONS = readSections();
    private static final Set<String> NAMED = new LinkedHashSet<>();
    private static String sentence = "";
    private static int checks = 0;
    private static int wrong = 0;

    /** Runs the case of a sentence; what it finds wrong is told behind the sentence. */
    static void of(int promise, String words, Case test) {
        run(promise, promise, words, test);
    }

    /** Runs the case of a sentence of the terms for one promise. */
    static void ofTerms(int promise, String words, Case test) {
        run(TERMS, promise, words, test);
    }

    private static void run(int section, int promise, String words, Case test) {
        sentence = (promise == TERMS ? "Terms: " : "Promise " + promise + ": ") + words;
        if (!SECTIONS[section].contains(words)) {
            fail("does not stand in the document");
        }
        if (!NAMED.add(promise + words)) {
            fail("has two cases");
        }
        int before = checks;
        try {
            test.run();
        } catch (RuntimeException e) {
            fail("a call threw " + e.getClass().getName());
        }
        if (checks == before) {
            fail("has no check");
        }
    }

    static void fail(String what) {
        wrong++;
        System.out.println(sentence + " | " + what);
    }

    static void due(String what, double got, double want) {
        checks++;
        if (got != want) {
            fail(what + " answered " + got + ", due is " + want);
        }
    }

    static void due(String what, String got, String want) {
        checks++;
        if (!got.equals(want)) {
            fail(what + " answered " + got + ", due is " + want);
        }
    }

    static void dueThrow(String what, Class<?> want, Quillroom x, Use use) {
        checks++;
        Class<?> got = thrownBy(x, use);
        if (got != want) {
            fail(what + " threw " + (got == null ? "nothing" : got.getSimpleName()) + ", due is " + want.getSimpleName());
        }
    }

    static Class<?> thrownBy(Quillroom x, Use use) {
        try {
            use.on(x);
            return null;
        } catch (RuntimeException e) {
            return e.getClass();
        }
    }

    /** Each line of the document that begins with these words has to have its case. */
    static void eachHasItsCase(String beginning) {
        for (int promise = 1; promise <= PROMISES; promise++) {
            int at = SECTIONS[promise].indexOf(beginning);
            while (at >= 0) {
                int next = SECTIONS[promise].indexOf(beginning, at + 1);
                String line = SECTIONS[promise].substring(at, next < 0 ? SECTIONS[promise].length() : next).trim();
                if (!NAMED.contains(promise + line)) {
                    fail("no case of promise " + promise + ": " + line);
                }
                at = next;
            }
        }
    }

    static void end() {
        System.out.println(wrong == 0 ? NAMED.size() + " sentences hold in " + checks + " checks"
                : wrong + " checks of sentences do not hold");
        if (wrong != 0) {
            System.exit(1);
        }
    }

    /** All ahead of the promises, then each promise, with one blank for each row of white space. */
    private static String[] readSections() {
        String[] sections = new String[PROMISES + 1];
        String all;
        try {
            all = new String(Files.readAllBytes(Path.of("../shared/DOC.md")), StandardCharsets.UTF_8);
        } catch (IOException e) {
            throw new IllegalStateException("../shared/DOC.md cannot be read", e);
        }
        for (String part : all.split("(?m)^## ")) {
            String plain = part.replaceAll("\\s+", " ").trim();
            if (plain.startsWith("What it is ")) {
                sections[TERMS] = plain;
            } else if (plain.startsWith("Terms ")) {
                sections[TERMS] += " " + plain;
            } else if (plain.startsWith("Promise ")) {
                sections[Integer.parseInt(plain.substring(8, plain.indexOf(':')))] = plain;
            }
        }
        return sections;
    }

    static Quillroom text(Quillroom x, String text) {
        x.erase();
        for (int i = 0; i < text.length(); i++) {
            x.type(text.charAt(i));
        }
        return x;
    }

    static Quillroom typed(String text) {
        return text(new Quillroom(), text);
    }

    static int add(Quillroom x, String text, int kind, int value) {
        return text(x, text).add(kind, value);
    }

    /** Adds documents of the kind 0 without values. */
    static Quillroom added(Quillroom x, String... texts) {
        for (String text : texts) {
            add(x, text, 0, -1);
        }
        return x;
    }

    /** A new object with documents of the kind 0 without values, committed at once. */
    static Quillroom room(String... texts) {
        Quillroom x = added(new Quillroom(), texts);
        x.commit();
        return x;
    }

    /** Commits as many new documents without words as told, as segments of these sizes. */
    static Quillroom segments(Quillroom x, int... sizes) {
        x.erase();
        for (int size : sizes) {
            for (int i = 0; i < size; i++) {
                x.add(0, -1);
            }
            x.commit();
        }
        return x;
    }

    static int ask(Quillroom x, String question) {
        return text(x, question).ask(-1, 's');
    }

    /** The documents of the answer, with a blank behind each. */
    static String hits(Quillroom x, String question, char order) {
        return ranked(x, text(x, question).ask(-1, order));
    }

    static String ranked(Quillroom x, int many) {
        StringBuilder numbers = new StringBuilder();
        for (int rank = 0; rank < many; rank++) {
            numbers.append(x.hit(rank)).append(' ');
        }
        return numbers.toString();
    }

    static void dueHits(Quillroom x, String question, String want) {
        due("ask " + question, hits(x, question, 's'), want);
    }

    static void dueScore(Quillroom x, String question, int rank, float want) {
        ask(x, question);
        due("scoreBits(" + rank + ") of " + question, x.scoreBits(rank), Float.floatToIntBits(want));
    }

    static float score(float weight, int f, int l, float mean) {
        return weight * ((float) f * 2.2f / ((float) f + 1.2f * (0.25f + 0.75f * (float) l / mean)));
    }

    static void dueQuestion(String text) {
        dueThrow("fault of " + text, java.util.NoSuchElementException.class, typed(text), x -> x.fault());
        due("ask " + text, typed(text).ask(-1, 's'), 0);
    }

    static void dueFault(String text, int place) {
        Quillroom x = typed(text);
        due("fault of " + text, x.fault(), place);
        dueThrow("ask " + text, UnsupportedOperationException.class, x, y -> y.ask(-1, 's'));
    }

    static String times(String part, int many) {
        return part.repeat(many);
    }

    /** The stem that is suggested. */
    static String suggested(Quillroom x, String text) {
        int size = text(x, text).suggest();
        StringBuilder stem = new StringBuilder();
        for (int i = 0; i < size; i++) {
            stem.append(x.suggestedAt(i));
        }
        return stem.toString();
    }
}
