import java.io.IOException;
import java.lang.reflect.Constructor;
import java.lang.reflect.Field;
import java.lang.reflect.Method;
import java.lang.reflect.Modifier;
import java.nio.charset.StandardCharsets;
import java.nio.file.Files;
import java.nio.file.Path;
import java.util.Arrays;
import java.util.HashSet;
import java.util.NoSuchElementException;
import java.util.Set;
import java.util.TreeSet;

/** The face has just what the document shows, and wild arguments meet just the exceptions that it lists. */
public final class FaceTest {
    private static final String[] FACE = {
        "int type(char) IllegalArgumentException IllegalStateException",
        "int erase()",
        "int add(int,int) IllegalArgumentException IllegalStateException",
        "int delete(int) NoSuchElementException",
        "int addAlias() UnsupportedOperationException IllegalStateException",
        "int commit()",
        "int sync()",
        "int crash()",
        "int waiting()",
        "int segments()",
        "int sizeOf(int) IndexOutOfBoundsException",
        "int liveIn(int) IndexOutOfBoundsException",
        "int documentAt(int,int) IndexOutOfBoundsException",
        "int merges()",
        "int openReader() IllegalStateException",
        "int closeReader(int) NoSuchElementException",
        "int documents(int) NoSuchElementException",
        "int fault() NoSuchElementException",
        "int ask(int,char) NoSuchElementException IllegalArgumentException UnsupportedOperationException",
        "int hit(int) IndexOutOfBoundsException",
        "int scoreBits(int) IndexOutOfBoundsException",
        "int valueOf(int) IndexOutOfBoundsException NoSuchElementException",
        "int page(int) IllegalArgumentException IllegalStateException",
        "int pageAt() IllegalStateException",
        "int setFilter(int) IllegalArgumentException",
        "int facet(int) IllegalArgumentException IllegalStateException",
        "int passage(int) IndexOutOfBoundsException UnsupportedOperationException",
        "int passageStems(int) IndexOutOfBoundsException UnsupportedOperationException",
        "int suggest() UnsupportedOperationException NoSuchElementException",
        "char suggestedAt(int) IndexOutOfBoundsException",
        "int frequency(int) NoSuchElementException UnsupportedOperationException",
        "int stems()",
        "long lengths()",
        "float markedShare() ArithmeticException",
        "double meanSize() ArithmeticException",
        "boolean isSound()",
    };
    private static final int[] WILD = {Integer.MIN_VALUE, -65, -2, -1, 0, 1, 2, 3, 7, 20, 59, 60, 63, 64, 81, 999, 1000,
        65536, Integer.MAX_VALUE};
    private static int wrong = 0;

    public static void main(String[] args) throws IOException {
        faceIsAsShown();
        sourceKeepsToTheLanguage();
        wildCalls(new Quillroom());
        Quillroom filled = new Quillroom();
        fill(filled);
        wildCalls(filled);
        System.out.println(wrong == 0 ? "the face is as due" : wrong + " things of the face are not as due");
        if (wrong != 0) {
            System.exit(1);
        }
    }

    private static void fail(String what) {
        wrong++;
        System.out.println(what);
    }

    private static void faceIsAsShown() {
        Set<String> got = new TreeSet<>();
        Set<String> names = new HashSet<>();
        for (Method method : Quillroom.class.getDeclaredMethods()) {
            if (Modifier.isPublic(method.getModifiers())) {
                got.add(told(method));
                names.add(method.getName());
            } else if (!Modifier.isPrivate(method.getModifiers()) && !method.isSynthetic()) {
                fail("not private: " + method);
            }
        }
        Set<String> want = new TreeSet<>(Arrays.asList(FACE));
        if (!got.equals(want)) {
            fail("the face is " + got + ", due is " + want);
        }
        Constructor<?>[] constructors = Quillroom.class.getDeclaredConstructors();
        if (constructors.length != 1 || constructors[0].getParameterCount() != 0
                || !Modifier.isPublic(constructors[0].getModifiers())) {
            fail("the constructor is not as due");
        }
        if (!Modifier.isFinal(Quillroom.class.getModifiers())) {
            fail("the class is not final");
        }
        insideIsHidden(Quillroom.class, names);
        for (Class<?> inside : Quillroom.class.getDeclaredClasses()) {
            insideIsHidden(inside, names);
            if (Modifier.isPublic(inside.getModifiers()) || !Modifier.isStatic(inside.getModifiers())) {
                fail("not hidden or not static: " + inside);
            }
        }
    }

    private static void insideIsHidden(Class<?> type, Set<String> faceNames) {
        int fields = 0;
        for (Field field : type.getDeclaredFields()) {
            boolean isStatic = Modifier.isStatic(field.getModifiers());
            fields += isStatic ? 0 : 1;
            if (!Modifier.isPrivate(field.getModifiers()) || isStatic && !Modifier.isFinal(field.getModifiers())) {
                fail("not private, or static and not final: " + field);
            }
        }
        if (fields > 20) {
            fail("too many fields: " + type);
        }
        for (Method method : type.getDeclaredMethods()) {
            if (!Modifier.isPublic(method.getModifiers()) && faceNames.contains(method.getName())) {
                fail("bears a name of the face: " + method);
            }
            if (method.getParameterCount() > 7) {
                fail("too many parameters: " + method);
            }
        }
    }

    private static String told(Method method) {
        StringBuilder told = new StringBuilder(method.getReturnType().getSimpleName());
        told.append(' ').append(method.getName()).append('(');
        for (int i = 0; i < method.getParameterCount(); i++) {
            told.append(i > 0 ? "," : "").append(method.getParameterTypes()[i].getSimpleName());
        }
        told.append(')');
        for (Class<?> exception : method.getExceptionTypes()) {
            told.append(' ').append(exception.getSimpleName());
        }
        return told.toString();
    }

    private static void sourceKeepsToTheLanguage() throws IOException {
        Path path = Path.of("src/main/java/Quillroom.java");
        String source = new String(Files.readAllBytes(path), StandardCharsets.UTF_8);
        for (String banned : new String[] {"->", "::", "try ", "catch", "finally", "synchronized", "assert ", "System.out",
            "Float.", "Double.", "Exact(", " record ", "lambda", "\"%", "\" +", "+ \"", "package ", "import static"}) {
            if (source.contains(banned)) {
                fail("the source has " + banned);
            }
        }
        for (char sign : source.toCharArray()) {
            if (sign > 126) {
                fail("the source has the sign " + (int) sign);
            }
        }
        int classes = source.split("\\bclass [A-Z]").length - 1;
        if (classes > 12) {
            fail("the source has " + classes + " classes");
        }
    }

    private static void fill(Quillroom x) {
        for (int i = 0; i < 12; i++) {
            type(x, "fox dogs the jumping");
            x.add(i % 7, i);
            if (i % 3 == 0) {
                x.commit();
            }
        }
        x.openReader();
        type(x, "fox \"dog jump\"~3 (+jum* -x)");
        x.ask(0, 's');
        x.erase();
        type(x, "jumps");
        x.suggest();
    }

    private static void type(Quillroom x, String text) {
        for (int i = 0; i < text.length(); i++) {
            x.type(text.charAt(i));
        }
    }

    private static void wildCalls(Quillroom x) {
        for (int first : WILD) {
            for (int second : WILD) {
                for (int call = 0; call < FACE.length; call++) {
                    wildCall(x, call, first, second);
                }
            }
        }
    }

    private static void wildCall(Quillroom x, int call, int first, int second) {
        String name = FACE[call].substring(FACE[call].indexOf(' ') + 1, FACE[call].indexOf('('));
        String listed = FACE[call].substring(FACE[call].indexOf(')') + 1) + " ";
        try {
            switch (name) {
                case "type": x.type((char) first); break;
                case "add": x.add(first, second); break;
                case "delete": x.delete(first); break;
                case "addAlias": x.addAlias(); break;
                case "sizeOf": x.sizeOf(first); break;
                case "liveIn": x.liveIn(first); break;
                case "documentAt": x.documentAt(first, second); break;
                case "closeReader": x.closeReader(first); break;
                case "openReader": x.openReader(); break;
                case "documents": x.documents(first); break;
                case "fault": x.fault(); break;
                case "ask": x.ask(first, (char) second); break;
                case "hit": x.hit(first); break;
                case "scoreBits": x.scoreBits(first); break;
                case "valueOf": x.valueOf(first); break;
                case "page": x.page(first); break;
                case "pageAt": x.pageAt(); break;
                case "setFilter": x.setFilter(first); break;
                case "facet": x.facet(first); break;
                case "passage": x.passage(first); break;
                case "passageStems": x.passageStems(first); break;
                case "suggest": x.suggest(); break;
                case "suggestedAt": x.suggestedAt(first); break;
                case "frequency": x.frequency(first); break;
                case "markedShare": x.markedShare(); break;
                case "meanSize": x.meanSize(); break;
                default: x.isSound(); break;
            }
        } catch (NoSuchElementException | IllegalArgumentException | IllegalStateException
                | IndexOutOfBoundsException | UnsupportedOperationException | ArithmeticException e) {
            if (!listed.contains(" " + e.getClass().getSimpleName() + " ")) {
                fail(name + "(" + first + ", " + second + ") threw " + e.getClass());
            }
        } catch (RuntimeException e) {
            fail(name + "(" + first + ", " + second + ") threw " + e.getClass());
        }
    }
}
