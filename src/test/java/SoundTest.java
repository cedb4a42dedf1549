import java.lang.reflect.Field;

/** Spoils what an object holds, which no call of its face does, to see that isSound finds it. */
public final class SoundTest {
    private static int wrong = 0;

    /** A way to spoil an object. */
    private interface Spoiler {
        void spoil(Quillroom x) throws ReflectiveOperationException;
    }

    public static void main(String[] args) throws ReflectiveOperationException {
        due("as it is", true, x -> { });
        due("a document of the commit is in no segment", false, x -> set(x, "current", 63L));
        due("a document is in two segments", false, x -> row(x)[0] = 31L);
        due("a document of the commit is marked", false, x -> set(get(x, "shelf"), "marked", 4L));
        due("the answer has two documents changed", false, x -> swap((int[]) get(get(x, "answer"), "ranked")));
        due("the answer has a score changed", false, x -> ((float[]) get(get(x, "answer"), "scores"))[0] += 0.0001f);
        due("the answer lacks a document", false, x -> set(get(x, "answer"), "count", 1));
        due("the answer holds in one more", false, x -> set(get(x, "answer"), "held", 31L));
        due("what is known of the places is not looked at", true, x -> ((int[][]) get(get(x, "index"), "rows"))[0][0] = 9);
        System.out.println(wrong == 0 ? "isSound finds what is spoilt" : wrong + " things spoilt are not found");
        if (wrong != 0) {
            System.exit(1);
        }
    }

    private static void due(String what, boolean want, Spoiler spoiler) throws ReflectiveOperationException {
        Quillroom x = new Quillroom();
        String[] texts = {"fox fox dog", "cow fox", "dog", "ox", "cow"};
        for (int i = 0; i < texts.length; i++) {
            type(x, texts[i]);
            x.add(0, -1);
            if (i == 2) {
                x.commit();
            }
        }
        x.commit();
        type(x, "fox dog");
        x.ask(-1, 's');
        // A check ahead must not leave behind what would hide the next one's finding.
        x.isSound();
        spoiler.spoil(x);
        if (x.isSound() != want) {
            wrong++;
            System.out.println(what + ": isSound answered " + !want);
        }
    }

    private static void type(Quillroom x, String text) {
        for (int i = 0; i < text.length(); i++) {
            x.type(text.charAt(i));
        }
    }

    private static long[] row(Quillroom x) throws ReflectiveOperationException {
        return (long[]) get(get(x, "shelf"), "rows");
    }

    private static void swap(int[] row) {
        int first = row[0];
        row[0] = row[1];
        row[1] = first;
    }

    private static Object get(Object x, String name) throws ReflectiveOperationException {
        Field field = x.getClass().getDeclaredField(name);
        field.setAccessible(true);
        return field.get(x);
    }

    private static void set(Object x, String name, Object value) throws ReflectiveOperationException {
        Field field = x.getClass().getDeclaredField(name);
        field.setAccessible(true);
        field.set(x, value);
    }
}
