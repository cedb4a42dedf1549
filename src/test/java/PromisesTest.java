import java.util.NoSuchElementException;

/** One test or more for each promise, with answers reckoned by hand from the document. */
public final class PromisesTest {
    private static int wrong = 0;
    private static int checks = 0;


    /** A call that is expected to throw. */
    private interface Call {
        void make();
    }

    public static void main(String[] args) {
        promise1NewObject();
        promise2Type();
        promise3Erase();
        promise4Add();
        promise5Delete();
        promise6AddAlias();
        promise7Commit();
        promises8To10Log();
        promise9CrashGivesBackDeletions();
        promises11To15Segments();
        promise15ManyMerges();
        promises16To18Readers();
        promise19Fault();
        promise20AskThrows();
        words();
        signsOfClauses();
        beginningsAndNearWords();
        phrases();
        ranges();
        scores();
        promise21To23Answers();
        promises24And25Pages();
        promises26And27Kinds();
        promises28And29Passages();
        promises30And31Suggestions();
        promises32To34Stems();
        promises35And36Shares();
        promise37Sound();
        fullText();
        System.out.println(wrong == 0 ? checks + " checks of the promises hold" : wrong + " checks do not hold");
        if (wrong != 0) {
            System.exit(1);
        }
    }

    private static void due(String what, double got, double want) {
        checks++;
        if (got != want) {
            wrong++;
            System.out.println(what + " answered " + got + ", due is " + want);
        }
    }

    private static void dueThrow(String what, Class<?> want, Call call) {
        checks++;
        Class<?> got = null;
        try {
            call.make();
        } catch (RuntimeException e) {
            got = e.getClass();
        }
        if (got != want) {
            wrong++;
            System.out.println(what + " threw " + got + ", due is " + want);
        }
    }

    private static Quillroom text(Quillroom x, String text) {
        x.erase();
        for (int i = 0; i < text.length(); i++) {
            x.type(text.charAt(i));
        }
        return x;
    }

    private static int add(Quillroom x, String text, int kind, int value) {
        return text(x, text).add(kind, value);
    }

    /** A new object with documents of the kind 0 and without values, committed at once. */
    private static Quillroom room(String... texts) {
        Quillroom x = new Quillroom();
        for (String text : texts) {
            add(x, text, 0, -1);
        }
        x.commit();
        return x;
    }

    private static void dueHits(String question, Quillroom x, int... documents) {
        dueHits(question, x, 's', documents);
    }

    private static void dueHits(String question, Quillroom x, char order, int... documents) {
        due("ask " + question, text(x, question).ask(-1, order), documents.length);
        for (int rank = 0; rank < documents.length; rank++) {
            due("hit " + rank + " of " + question, x.hit(rank), documents[rank]);
        }
        due("isSound after " + question, x.isSound() ? 1 : 0, 1);
    }

    private static void dueScore(String question, Quillroom x, int rank, float score) {
        text(x, question).ask(-1, 's');
        due("scoreBits " + rank + " of " + question, x.scoreBits(rank), Float.floatToIntBits(score));
    }

    private static void dueFault(String question, int place) {
        Quillroom x = text(new Quillroom(), question);
        if (place >= 0) {
            int got = -2;
            try {
                got = x.fault();
            } catch (NoSuchElementException e) {
                got = -1;
            }
            due("fault of " + question, got, place);
            dueThrow("ask " + question, UnsupportedOperationException.class, () -> x.ask(-1, 's'));
        } else {
            dueThrow("fault of " + question, NoSuchElementException.class, () -> x.fault());
            due("ask " + question, x.ask(-1, 's'), 0);
        }
    }

    private static void promise1NewObject() {
        Quillroom x = new Quillroom();
        due("erase", x.erase(), 0);
        due("segments", x.segments(), 0);
        due("waiting", x.waiting(), 0);
        due("merges", x.merges(), 0);
        due("documents", x.documents(-1), 0);
        due("stems", x.stems(), 0);
        due("lengths", x.lengths(), 0);
        due("setFilter", x.setFilter(-1), -1);
        due("isSound", x.isSound() ? 1 : 0, 1);
        dueThrow("documents", NoSuchElementException.class, () -> x.documents(0));
        dueThrow("page", IllegalStateException.class, () -> x.page(1));
    }

    private static void promise2Type() {
        Quillroom x = new Quillroom();
        String good = "az09 \"*~+-[],()";
        for (int i = 0; i < good.length(); i++) {
            due("type " + good.charAt(i), x.type(good.charAt(i)), i + 1);
        }
        for (int sign = 0; sign < 65536; sign++) {
            char character = (char) sign;
            boolean isGood = sign >= 'a' && sign <= 'z' || sign >= '0' && sign <= '9' || good.indexOf(character) >= 0;
            if (!isGood) {
                dueThrow("type " + sign, IllegalArgumentException.class, () -> x.type(character));
            }
        }
        due("erase", x.erase(), good.length());
        for (int i = 0; i < 80; i++) {
            due("type", x.type('a'), i + 1);
        }
        dueThrow("type the 81st", IllegalStateException.class, () -> x.type('a'));
        dueThrow("type a wrong 81st", IllegalArgumentException.class, () -> x.type('A'));
        due("erase", x.erase(), 80);
    }

    private static void promise3Erase() {
        Quillroom x = text(new Quillroom(), "fox");
        due("erase", x.erase(), 3);
        due("erase", x.erase(), 0);
        due("type", x.type('b'), 1);
    }

    private static void promise4Add() {
        Quillroom x = text(new Quillroom(), "fox");
        dueThrow("add", IllegalArgumentException.class, () -> x.add(-1, 0));
        dueThrow("add", IllegalArgumentException.class, () -> x.add(7, 0));
        dueThrow("add", IllegalArgumentException.class, () -> x.add(0, -2));
        dueThrow("add", IllegalArgumentException.class, () -> x.add(0, 1000));
        dueThrow("add", IllegalArgumentException.class, () -> x.add(Integer.MIN_VALUE, Integer.MAX_VALUE));
        due("waiting", x.waiting(), 0);
        due("add", x.add(6, 999), 0);
        due("the text is taken away", x.erase(), 0);
        for (int i = 1; i < 60; i++) {
            due("add", x.add(i % 7, -1), i);
        }
        text(x, "ox");
        dueThrow("add the 61st", IllegalStateException.class, () -> x.add(0, 0));
        dueThrow("add a wrong 61st", IllegalArgumentException.class, () -> x.add(7, 0));
        due("the text stays", x.erase(), 2);
        due("crash", x.crash(), 60);
        dueThrow("add behind 60 lost ones", IllegalStateException.class, () -> x.add(0, 0));
    }

    private static void promise5Delete() {
        Quillroom x = room("fox", "dog");
        dueThrow("delete", NoSuchElementException.class, () -> x.delete(-1));
        dueThrow("delete", NoSuchElementException.class, () -> x.delete(2));
        dueThrow("delete", NoSuchElementException.class, () -> x.delete(64));
        dueThrow("delete", NoSuchElementException.class, () -> x.delete(Integer.MIN_VALUE));
        due("delete a committed one", x.delete(0), 1);
        dueThrow("delete again", NoSuchElementException.class, () -> x.delete(0));
        due("it is there until the commit", x.documents(-1), 2);
        due("add", add(x, "ox", 0, -1), 2);
        due("delete a waiting one", x.delete(2), 3);
        dueThrow("delete again", NoSuchElementException.class, () -> x.delete(2));
        due("commit", x.commit(), 1);
        due("documents", x.documents(-1), 1);
        dueThrow("delete again", NoSuchElementException.class, () -> x.delete(0));
        dueThrow("delete again", NoSuchElementException.class, () -> x.delete(2));
        add(x, "ox", 0, -1);
        x.crash();
        dueThrow("delete a lost one", NoSuchElementException.class, () -> x.delete(3));
    }

    private static void promise6AddAlias() {
        Quillroom x = new Quillroom();
        String[] bad = {"", "fox", "fox  dog", " fox dog", "fox dog ", "fox dog ox", "fox,dog", "fox dog1", "the fox",
            "fox a", "of to", "fox fox", "jumps jumping", "fox -dog"};
        for (String text : bad) {
            text(x, text);
            dueThrow("addAlias " + text, UnsupportedOperationException.class, () -> x.addAlias());
            due("the text stays", x.erase(), text.length());
        }
        due("addAlias", text(x, "cars autos").addAlias(), 1);
        due("the text is taken away", x.erase(), 0);
        text(x, "car auto");
        dueThrow("addAlias again", IllegalStateException.class, () -> x.addAlias());
        due("addAlias the other way", text(x, "auto car").addAlias(), 2);
        due("addAlias", text(x, "auto wagon").addAlias(), 3);
        due("addAlias", text(x, "red rot").addAlias(), 4);
        due("addAlias", text(x, "blue blau").addAlias(), 5);
        add(x, "green", 0, -1);
        due("addAlias", text(x, "green thes").addAlias(), 6);
        text(x, "one two");
        dueThrow("addAlias the 7th", IllegalStateException.class, () -> x.addAlias());
        text(x, "one one");
        dueThrow("addAlias a wrong 7th", UnsupportedOperationException.class, () -> x.addAlias());
        add(x, "green car", 0, -1);
        x.commit();
        dueHits("auto", x, 1);
        dueHits("wagon", x);
        due("aliases are of a document as it is added", text(x, "thes").ask(-1, 's'), 1);
        due("hit", x.hit(0), 1);
        due("stems", x.stems(), 4);
        due("lengths", x.lengths(), 3);
        dueHits("\"green auto\"", x, 1);
        dueHits("\"thes auto\"", x, 1);
        dueHits("\"car auto\"", x);
    }

    private static void promise7Commit() {
        Quillroom x = new Quillroom();
        due("commit", x.commit(), 0);
        add(x, "fox", 0, -1);
        add(x, "dog", 0, -1);
        x.delete(0);
        due("commit", x.commit(), 1);
        due("sizeOf", x.sizeOf(0), 1);
        due("documentAt", x.documentAt(0, 0), 1);
        due("waiting", x.waiting(), 0);
        due("commit", x.commit(), 1);
        x.delete(1);
        due("commit", x.commit(), 0);
        due("documents", x.documents(-1), 0);
    }

    private static void promises8To10Log() {
        Quillroom x = new Quillroom();
        due("sync", x.sync(), 0);
        add(x, "fox", 0, -1);
        add(x, "dog", 0, -1);
        due("waiting", x.waiting(), 2);
        due("sync", x.sync(), 2);
        add(x, "ox", 0, -1);
        x.delete(2);
        due("waiting", x.waiting(), 4);
        due("crash", x.crash(), 2);
        due("waiting", x.waiting(), 2);
        dueThrow("delete a lost one", NoSuchElementException.class, () -> x.delete(2));
        due("the number is not given again", add(x, "ox", 0, -1), 3);
        due("crash", x.crash(), 1);
        due("crash", x.crash(), 0);
        due("commit", x.commit(), 1);
        due("sync after a commit", x.sync(), 0);
        due("crash after a commit", x.crash(), 0);
        due("documents", x.documents(-1), 2);
    }

    private static void promise9CrashGivesBackDeletions() {
        Quillroom x = room("fox", "dog");
        add(x, "ox", 0, -1);
        x.sync();
        x.delete(0);
        x.delete(2);
        text(x, "fox").ask(-1, 's');
        x.openReader();
        due("crash", x.crash(), 2);
        dueThrow("readers are closed", NoSuchElementException.class, () -> x.documents(0));
        due("the answer stays", x.hit(0), 0);
        due("the text stays", x.erase(), 3);
        due("delete", x.delete(0), 2);
        due("delete", x.delete(2), 3);
        due("sync", x.sync(), 3);
        due("crash", x.crash(), 0);
        due("commit", x.commit(), 1);
        due("documentAt", x.documentAt(0, 1), 1);
        due("liveIn", x.liveIn(0), 1);
    }

    private static void promises11To15Segments() {
        Quillroom x = room("fox", "dog");
        add(x, "ox", 0, -1);
        x.commit();
        due("segments", x.segments(), 2);
        due("sizeOf", x.sizeOf(0), 2);
        due("sizeOf", x.sizeOf(1), 1);
        x.delete(0);
        x.commit();
        due("sizeOf", x.sizeOf(0), 2);
        due("liveIn", x.liveIn(0), 1);
        due("documentAt", x.documentAt(0, 0), 0);
        for (int bad : new int[] {-1, 2, Integer.MAX_VALUE, Integer.MIN_VALUE}) {
            dueThrow("sizeOf " + bad, IndexOutOfBoundsException.class, () -> x.sizeOf(bad));
            dueThrow("liveIn " + bad, IndexOutOfBoundsException.class, () -> x.liveIn(bad));
            dueThrow("documentAt " + bad, IndexOutOfBoundsException.class, () -> x.documentAt(bad, 0));
            dueThrow("documentAt 0, " + bad, IndexOutOfBoundsException.class, () -> x.documentAt(0, bad));
        }
        dueThrow("documentAt", IndexOutOfBoundsException.class, () -> x.documentAt(1, 1));
        due("merges", x.merges(), 0);
        add(x, "cow", 0, -1);
        due("commit", x.commit(), 1);
        due("merges", x.merges(), 1);
        due("sizeOf", x.sizeOf(0), 3);
        due("liveIn", x.liveIn(0), 3);
        due("documentAt", x.documentAt(0, 0), 1);
        due("documentAt", x.documentAt(0, 2), 3);
    }

    private static void commitNew(Quillroom x, int many) {
        for (int i = 0; i < many; i++) {
            x.add(0, -1);
        }
        x.commit();
    }

    private static void promise15ManyMerges() {
        Quillroom x = new Quillroom();
        commitNew(x, 6);
        commitNew(x, 3);
        commitNew(x, 2);
        commitNew(x, 2);
        due("segments", x.segments(), 4);
        due("merges", x.merges(), 0);
        commitNew(x, 2);
        due("three of tier 0 become the third of tier 1, then one of tier 2", x.segments(), 1);
        due("merges", x.merges(), 2);
        due("sizeOf", x.sizeOf(0), 15);
        commitNew(x, 7);
        commitNew(x, 1);
        due("segments", x.segments(), 3);
        commitNew(x, 7);
        due("the first place has the merged ones", x.sizeOf(0), 29);
        due("the other segment stays behind it", x.documentAt(1, 0), 22);
        due("merges", x.merges(), 3);
        x.delete(22);
        due("a segment of marked ones is gone", x.commit(), 1);
        Quillroom y = new Quillroom();
        commitNew(y, 2);
        commitNew(y, 2);
        y.delete(0);
        y.delete(1);
        commitNew(y, 2);
        due("it is gone ahead of looking for tiers", y.segments(), 2);
        due("merges", y.merges(), 0);
        Quillroom z = new Quillroom();
        commitNew(z, 7);
        commitNew(z, 7);
        for (int i = 0; i < 6; i++) {
            z.delete(i);
        }
        commitNew(z, 7);
        due("marked ones count for the tier", z.segments(), 1);
        due("marked ones are not in the merged one", z.sizeOf(0), 15);
    }

    private static void promises16To18Readers() {
        Quillroom x = room("fox", "dog");
        due("openReader", x.openReader(), 0);
        x.delete(0);
        x.commit();
        due("openReader", x.openReader(), 1);
        due("openReader", x.openReader(), 2);
        dueThrow("openReader", IllegalStateException.class, () -> x.openReader());
        due("documents", x.documents(0), 2);
        due("documents", x.documents(1), 1);
        due("documents", x.documents(-1), 1);
        for (int bad : new int[] {-2, 3, Integer.MAX_VALUE, Integer.MIN_VALUE}) {
            dueThrow("documents " + bad, NoSuchElementException.class, () -> x.documents(bad));
            dueThrow("closeReader " + bad, NoSuchElementException.class, () -> x.closeReader(bad));
            dueThrow("frequency " + bad, NoSuchElementException.class, () -> x.frequency(bad));
        }
        dueThrow("closeReader -1", NoSuchElementException.class, () -> x.closeReader(-1));
        due("ask", text(x, "fox").ask(0, 's'), 1);
        due("facet", x.facet(0), 1);
        due("ask", x.ask(1, 's'), 0);
        due("frequency", x.frequency(0), 1);
        due("frequency", x.frequency(2), 0);
        due("closeReader", x.closeReader(1), 2);
        dueThrow("closeReader again", NoSuchElementException.class, () -> x.closeReader(1));
        dueThrow("documents of a closed one", NoSuchElementException.class, () -> x.documents(1));
        due("the lowest free one", x.openReader(), 1);
        due("crash", x.crash(), 0);
        due("openReader", x.openReader(), 0);
    }

    private static void promise19Fault() {
        String[] questions = {"fox", " fox ", "fox dog", "+fox -dog", "fo*", "fo~", "\"fox\"", "\" a  fox \"~0", "[1,2]",
            "[000,999]", "(fox)", "((a))", "+( -a )  b", "-(\"a\" [9,1])", "\"the\"", "the", "-a"};
        for (String question : questions) {
            dueFault(question, -1);
        }
        dueFault("", 0);
        dueFault("  ", 2);
        dueFault("(a", 2);
        dueFault("+ a", 1);
        dueFault("+", 1);
        dueFault("+-a", 1);
        dueFault("a+b", 1);
        dueFault("a b)", 3);
        dueFault("()", 1);
        dueFault("(a))", 3);
        dueFault("(a)b", 3);
        dueFault("(a)(b)", 3);
        dueFault("( )", 2);
        dueFault("(a -)", 4);
        dueFault("a**", 2);
        dueFault("a*~", 2);
        dueFault("a~1", 2);
        dueFault("a ~", 2);
        dueFault("*", 0);
        dueFault("1", 0);
        dueFault("a1", 1);
        dueFault("\"\"", 1);
        dueFault("\"  \"", 3);
        dueFault("\"a", 2);
        dueFault("\"a1\"", 2);
        dueFault("\"a*\"", 2);
        dueFault("\"a\"b", 3);
        dueFault("\"a\"~", 4);
        dueFault("\"a\"~b", 4);
        dueFault("\"a\"~12", 5);
        dueFault("\"a\" ~1", 4);
        dueFault("[", 1);
        dueFault("[]", 1);
        dueFault("[,1]", 1);
        dueFault("[1234,1]", 4);
        dueFault("[1]", 2);
        dueFault("[1,]", 3);
        dueFault("[1,1234]", 6);
        dueFault("[1, 2]", 3);
        dueFault("[1,2", 4);
        dueFault("[1,2]3", 5);
        dueFault("((((((((((((((((((((((((((((((((((((((((", 40);
    }

    private static void promise20AskThrows() {
        Quillroom x = room("fox");
        text(x, "fox").ask(-1, 's');
        text(x, "(");
        dueThrow("ask", NoSuchElementException.class, () -> x.ask(0, 'x'));
        dueThrow("ask", NoSuchElementException.class, () -> x.ask(-2, 's'));
        dueThrow("ask", IllegalArgumentException.class, () -> x.ask(-1, 'S'));
        dueThrow("ask", UnsupportedOperationException.class, () -> x.ask(-1, 's'));
        due("the answer ahead stays", x.hit(0), 0);
        due("passage of it", x.passageStems(0), 1);
        due("fault", x.fault(), 1);
        due("passage of it behind fault", x.passageStems(0), 1);
        due("isSound", x.isSound() ? 1 : 0, 1);
        due("the text stays", x.erase(), 1);
    }

    private static void words() {
        Quillroom x = room("the singing of a king", "ings need seeds", "bed1bus2gas", "to\"be*or-not");
        due("lengths", x.lengths(), 11);
        dueHits("sing", x, 0);
        dueHits("singing", x, 0);
        dueHits("king", x, 0);
        dueHits("k", x);
        dueHits("ing", x, 1);
        dueHits("need", x, 1);
        dueHits("seed", x, 1);
        dueHits("see", x);
        dueHits("bed", x, 2);
        dueHits("bus", x, 2);
        dueHits("the", x);
        dueHits("or", x, 3);
        dueHits("\"be or not\"", x, 3);
        dueHits("\"to be or\"", x, 3);
        Quillroom y = room("thes used fasting");
        dueHits("the", y);
        dueHits("thes", y, 0);
        dueHits("used", y, 0);
        dueHits("us", y);
        dueHits("fasts", y, 0);
        due("stems", y.stems(), 3);
    }

    private static void signsOfClauses() {
        Quillroom x = room("a b c", "b c d", "c d e", "x");
        dueHits("b d", x, 1, 0, 2);
        dueHits("+b d", x, 1, 0);
        dueHits("b -d", x, 0);
        dueHits("-d", x);
        dueHits("+c -b", x, 2);
        dueHits("+c -b x", x, 2);
        dueHits("x (+c -b)", x, 3, 2);
        dueHits("(b x) +c", x, 0, 1, 2);
        dueHits("+(b x) +c", x, 0, 1);
        dueHits("c -(b -d)", x, 1, 2);
        dueHits("+the c", x);
        dueHits("c -the", x, 0, 1, 2);
    }

    private static void beginningsAndNearWords() {
        Quillroom x = room("fa fb fc", "fd fe ff", "fg fh", "fi", "fi", "g");
        dueHits("f*", x, 0, 1, 2);
        dueHits("fi*", x, 3, 4);
        dueHits("fg*", x, 2);
        dueHits("fgs*", x);
        dueHits("ff~", x, 0, 1, 2);
        dueHits("gg~", x, 2, 5);
        dueHits("fas~", x, 0);
        dueHits("fans~", x, 0);
        Quillroom y = room("jump", "jumping", "jumper", "thee");
        dueHits("jumping*", y);
        dueHits("jumping~", y, 0, 1);
        dueHits("jumpe~", y, 0, 1, 2);
        dueHits("ujmp~", y);
        dueHits("the*", y, 3);
        dueHits("the~", y, 3);
        Quillroom z = room("fa fb fc fd", "fe ff fg fh fi", "fi");
        z.openReader();
        z.delete(0);
        z.commit();
        due("the first 8 are those of the reader", text(z, "f*").ask(0, 's'), 2);
        dueHits("f*", z, 1, 2);
        dueHits("f~", z, 1, 2);
        Quillroom d = room("feed", "fed", "f");
        dueHits("fed~", d, 0, 1);
    }

    private static void phrases() {
        Quillroom x = room("a b c d", "b a c d", "c b", "b x c", "b b c c");
        dueHits("\"b c\"", x, 0, 4);
        dueHits("\"b a c\"", x, 4, 1, 3);
        dueHits("\"b of c\"~1", x, 4, 1, 3);
        dueHits("\"c b\"", x, 2);
        dueHits("\"b c\"~1", x, 4, 0, 1, 3);
        dueHits("\"a the\"", x);
        dueHits("\"the\" c", x, 4, 2, 0, 1, 3);
        dueHits("\"b c d\"~1", x, 0, 1);
        dueHits("\"b c\"~9 -\"b c\"~1", x);
        Quillroom y = room("p q x q r", "p x q x r", "p x x q r");
        dueHits("\"p q r\"", y);
        dueHits("\"p q r\"~1", y);
        dueHits("\"p q r\"~2", y, 0, 1, 2);
        dueHits("\"p q a r\"", y);
        dueHits("\"p q a r\"~1", y, 0, 1);
        dueHits("\"p of a q r\"", y, 0, 2);
    }

    private static void ranges() {
        Quillroom x = new Quillroom();
        add(x, "", 0, 5);
        add(x, "", 0, 0);
        add(x, "", 0, -1);
        add(x, "", 0, 999);
        x.commit();
        dueHits("[5,5]", x, 0);
        dueHits("[0,5]", x, 0, 1);
        dueHits("[000,999]", x, 0, 1, 3);
        dueHits("[6,998]", x);
        dueHits("[9,1]", x);
        dueHits("+[0,999] -[05,5]", x, 1, 3);
        dueScore("[0,5]", x, 0, 1.0f);
        dueScore("[0,5] [5,9]", x, 0, 2.0f);
        dueThrow("passage", UnsupportedOperationException.class, () -> x.passage(0));
        dueThrow("passageStems", UnsupportedOperationException.class, () -> x.passageStems(1));
        dueThrow("passage", IndexOutOfBoundsException.class, () -> x.passage(2));
    }

    private static void scores() {
        Quillroom x = room("fox fox dog", "fox", "the cat ran up on to my new red mat and sat on it all");
        float mean = (float) 17 / (float) 3;
        float weight = 1.0f + (float) (3 - 2) / (float) (2 + 1);
        float first = weight * ((float) 2 * 2.2f / ((float) 2 + 1.2f * (0.25f + 0.75f * (float) 3 / mean)));
        float second = weight * ((float) 1 * 2.2f / ((float) 1 + 1.2f * (0.25f + 0.75f * (float) 1 / mean)));
        dueScore("fox", x, 0, Math.max(first, second));
        dueScore("fox", x, 1, Math.min(first, second));
        float alone = 1.0f + (float) (3 - 1) / (float) (1 + 1);
        float dog = alone * ((float) 1 * 2.2f / ((float) 1 + 1.2f * (0.25f + 0.75f * (float) 3 / mean)));
        dueScore("fox dog", x, 0, first + dog);
        dueScore("+dog fo* -cat (fox)", x, 0, (0.0f + dog + 1.0f) + first);
        // 13 words that are no stops count as 12, the three highest bits of 1101.
        float cat = alone * ((float) 1 * 2.2f / ((float) 1 + 1.2f * (0.25f + 0.75f * (float) 12 / mean)));
        dueScore("cat", x, 0, cat);
        dueScore("cats~ cat*", x, 0, 2.0f);
        float both = 0.0f + weight + alone;
        float phrase = both * ((float) 2 * 2.2f / ((float) 2 + 1.2f * (0.25f + 0.75f * (float) 3 / mean)));
        dueScore("\"fox dog\"~1", x, 0, phrase);
        float twice = 0.0f + weight + weight;
        float double1 = twice * ((float) 1 * 2.2f / ((float) 1 + 1.2f * (0.25f + 0.75f * (float) 3 / mean)));
        dueScore("\"fox a fox\" \"fox foxs\"", x, 0, double1);
    }

    private static void promise21To23Answers() {
        Quillroom x = new Quillroom();
        dueThrow("hit", IndexOutOfBoundsException.class, () -> x.hit(0));
        add(x, "fox", 0, 7);
        add(x, "fox fox", 0, -1);
        add(x, "fox fox", 0, 3);
        add(x, "fox", 0, 7);
        x.commit();
        dueHits("fox", x, 's', 1, 2, 0, 3);
        dueHits("fox", x, 'u', 2, 0, 3, 1);
        due("valueOf", x.valueOf(0), 3);
        dueThrow("valueOf", NoSuchElementException.class, () -> x.valueOf(3));
        dueHits("fox", x, 'd', 0, 3, 2, 1);
        due("valueOf", x.valueOf(0), 7);
        for (int bad : new int[] {-1, 4, Integer.MAX_VALUE, Integer.MIN_VALUE}) {
            dueThrow("hit " + bad, IndexOutOfBoundsException.class, () -> x.hit(bad));
            dueThrow("scoreBits " + bad, IndexOutOfBoundsException.class, () -> x.scoreBits(bad));
            dueThrow("valueOf " + bad, IndexOutOfBoundsException.class, () -> x.valueOf(bad));
            dueThrow("passage " + bad, IndexOutOfBoundsException.class, () -> x.passage(bad));
            dueThrow("passageStems " + bad, IndexOutOfBoundsException.class, () -> x.passageStems(bad));
        }
        x.delete(0);
        x.commit();
        due("the answer stays", x.hit(0), 0);
        due("value of it", x.valueOf(0), 7);
        due("isSound", x.isSound() ? 1 : 0, 1);
        dueHits("dog", x, 's');
        dueThrow("hit", IndexOutOfBoundsException.class, () -> x.hit(0));
    }

    private static void promises24And25Pages() {
        Quillroom x = room("a", "b", "b", "b", "b", "b");
        dueThrow("page", IllegalArgumentException.class, () -> x.page(0));
        dueThrow("page", IllegalArgumentException.class, () -> x.page(21));
        dueThrow("page", IllegalStateException.class, () -> x.page(20));
        dueThrow("pageAt", IllegalStateException.class, () -> x.pageAt());
        text(x, "b").ask(-1, 's');
        due("pageAt", x.pageAt(), 0);
        due("page", x.page(2), 2);
        due("pageAt", x.pageAt(), 2);
        due("page", x.page(20), 3);
        due("pageAt", x.pageAt(), 5);
        due("page", x.page(1), 0);
        due("pageAt", x.pageAt(), 5);
        x.isSound();
        due("pageAt", x.pageAt(), 5);
        x.ask(-1, 's');
        due("pageAt", x.pageAt(), 0);
        dueThrow("page", IllegalArgumentException.class, () -> x.page(Integer.MIN_VALUE));
        text(x, "a").ask(-1, 's');
        due("page of no documents", x.page(1), 0);
        due("pageAt", x.pageAt(), 0);
    }

    private static void promises26And27Kinds() {
        Quillroom x = new Quillroom();
        for (int kind = 0; kind < 7; kind++) {
            add(x, "fox", kind, -1);
        }
        add(x, "dog", 5, -1);
        x.commit();
        dueThrow("facet", IllegalStateException.class, () -> x.facet(0));
        dueThrow("facet", IllegalArgumentException.class, () -> x.facet(7));
        dueHits("fox", x, 0, 1, 2, 3, 4, 5, 6);
        int[] counts = {7, 3, 3, 1, 1, 1, 1};
        for (int kind = 0; kind < 7; kind++) {
            due("facet " + kind, x.facet(kind), counts[kind]);
        }
        dueThrow("setFilter", IllegalArgumentException.class, () -> x.setFilter(-2));
        dueThrow("setFilter", IllegalArgumentException.class, () -> x.setFilter(7));
        due("setFilter", x.setFilter(2), -1);
        due("it is for the next questions", x.hit(6), 6);
        due("isSound", x.isSound() ? 1 : 0, 1);
        dueHits("fox", x, 2, 5, 6);
        due("facet without the filter", x.facet(1), 3);
        due("setFilter", x.setFilter(3), 2);
        dueHits("fox", x, 3);
        due("setFilter", x.setFilter(-1), 3);
        due("setFilter", x.setFilter(-1), -1);
        dueThrow("facet", IllegalArgumentException.class, () -> x.facet(-1));
        x.delete(3);
        x.commit();
        due("facet at its commit", x.facet(3), 1);
        due("setFilter", x.setFilter(0), -1);
        dueHits("fox", x, 0, 1, 2, 4, 5, 6);
    }

    private static void duePassage(String question, String text, int place, int stems) {
        Quillroom x = room(text);
        text(x, question).ask(-1, 's');
        due("passage of " + question + " in " + text, x.passage(0), place);
        due("passageStems of " + question + " in " + text, x.passageStems(0), stems);
    }

    private static void promises28And29Passages() {
        duePassage("p q", "a p x x x q x", 1, 2);
        duePassage("p q", "p x x x x q p", 2, 2);
        duePassage("p q", "p x x x x q x", 0, 1);
        duePassage("p", "x x x x x x p", 2, 1);
        duePassage("[0,1] x*", "x p", 0, 0);
        duePassage("x* \"p a q\"", "x p p x x x q", 2, 2);
        duePassage("x -y", "x x", 0, 1);
        duePassage("x -(y (p))", "x", 0, 1);
        duePassage("x (+(q \"p r\") -(z x)) ", "q x x x x x r p", 3, 3);
        duePassage("x q -(+p +y)", "p x x x x x q", 2, 2);
        duePassage("x p p \"p p\"~9", "x p p p", 0, 2);
        duePassage("x p~ q*", "x x x x x p q", 0, 1);
        duePassage("thes the a p", "p the a to of x thes", 0, 1);
        Quillroom x = new Quillroom();
        text(x, "car auto").addAlias();
        add(x, "x x x x x x car", 0, -1);
        add(x, "the", 0, 1);
        add(x, " 12 ", 0, 1);
        x.commit();
        text(x, "auto car").ask(-1, 's');
        due("passage of an alias", x.passage(0), 2);
        due("passageStems of an alias", x.passageStems(0), 2);
        text(x, "[1,1]").ask(-1, 's');
        due("a stop is a word", x.passage(0), 0);
        due("a stop is a word", x.passageStems(0), 0);
        dueThrow("passage", UnsupportedOperationException.class, () -> x.passage(1));
        dueThrow("passageStems", UnsupportedOperationException.class, () -> x.passageStems(1));
        dueThrow("passageStems", IndexOutOfBoundsException.class, () -> x.passageStems(2));
    }

    private static String suggested(Quillroom x, String text) {
        int size = text(x, text).suggest();
        due("the text stays", x.erase(), text.length());
        StringBuilder stem = new StringBuilder();
        for (int i = 0; i < size; i++) {
            stem.append(x.suggestedAt(i));
        }
        dueThrow("suggestedAt", IndexOutOfBoundsException.class, () -> x.suggestedAt(size));
        return stem.toString();
    }

    private static void dueSuggestion(Quillroom x, String text, String want) {
        String got = suggested(x, text);
        due("suggest for " + text + ": " + got + ", due is " + want, got.equals(want) ? 1 : 0, 1);
    }

    private static void promises30And31Suggestions() {
        Quillroom x = room("apple maple", "maple", "apply", "bing");
        for (String bad : new String[] {"", " apple", "apple ", "two words", "a1", "\"a\""}) {
            text(x, bad);
            dueThrow("suggest for " + bad, UnsupportedOperationException.class, () -> x.suggest());
        }
        dueThrow("suggestedAt", IndexOutOfBoundsException.class, () -> x.suggestedAt(0));
        dueSuggestion(x, "aple", "maple");
        dueSuggestion(x, "apple", "apple");
        dueSuggestion(x, "appl", "apple");
        dueSuggestion(x, "ample", "apple");
        dueSuggestion(x, "pple", "apple");
        dueSuggestion(x, "apples", "apple");
        dueSuggestion(x, "bi", "bing");
        text(x, "the");
        dueThrow("suggest", NoSuchElementException.class, () -> x.suggest());
        text(x, "zzzzzz");
        dueThrow("suggest", NoSuchElementException.class, () -> x.suggest());
        due("the last one stays", x.suggestedAt(3), 'g');
        dueThrow("suggestedAt", IndexOutOfBoundsException.class, () -> x.suggestedAt(4));
        dueThrow("suggestedAt", IndexOutOfBoundsException.class, () -> x.suggestedAt(-1));
        dueThrow("suggestedAt", IndexOutOfBoundsException.class, () -> x.suggestedAt(Integer.MAX_VALUE));
        x.delete(0);
        x.commit();
        dueSuggestion(x, "apple", "apply");
        text(x, "maple ahorn").addAlias();
        text(x, "ahorn");
        dueThrow("suggest", NoSuchElementException.class, () -> x.suggest());
        add(x, "maples", 0, -1);
        text(x, "ahorn");
        dueThrow("suggest ahead of the commit", NoSuchElementException.class, () -> x.suggest());
        x.commit();
        dueSuggestion(x, "horns", "ahorn");
    }

    private static void promises32To34Stems() {
        Quillroom x = room("fox foxs fox the", "fox dog", "to");
        due("stems", x.stems(), 2);
        due("lengths", x.lengths(), 5);
        due("frequency", text(x, "foxs").frequency(-1), 2);
        due("the text stays", x.erase(), 4);
        due("frequency", text(x, "dogs").frequency(-1), 1);
        due("frequency", text(x, "cow").frequency(-1), 0);
        due("frequency", text(x, "the").frequency(-1), 0);
        for (String bad : new String[] {"", "fox dog", " fox", "fox*"}) {
            text(x, bad);
            dueThrow("frequency of " + bad, UnsupportedOperationException.class, () -> x.frequency(-1));
            dueThrow("frequency of " + bad, NoSuchElementException.class, () -> x.frequency(0));
        }
        x.openReader();
        text(x, "dog hund").addAlias();
        add(x, "dog", 0, -1);
        due("stems ahead of the commit", x.stems(), 2);
        x.delete(0);
        x.commit();
        due("stems", x.stems(), 3);
        due("lengths", x.lengths(), 3);
        due("frequency", text(x, "hund").frequency(-1), 1);
        due("frequency", x.frequency(0), 0);
        due("frequency", text(x, "fox").frequency(0), 2);
        due("frequency", x.frequency(-1), 1);
    }

    private static void promises35And36Shares() {
        Quillroom x = new Quillroom();
        dueThrow("markedShare", ArithmeticException.class, () -> x.markedShare());
        dueThrow("meanSize", ArithmeticException.class, () -> x.meanSize());
        commitNew(x, 4);
        commitNew(x, 2);
        commitNew(x, 1);
        due("markedShare", x.markedShare(), 0.0f);
        due("meanSize", x.meanSize(), (double) 7 / (double) 3);
        x.delete(0);
        x.delete(4);
        due("markedShare", x.markedShare(), 0.0f);
        x.commit();
        due("markedShare", x.markedShare(), (float) 2 / (float) 7);
        x.delete(5);
        x.commit();
        due("markedShare", x.markedShare(), (float) 1 / (float) 5);
        due("meanSize", x.meanSize(), 2.5);
        for (int i : new int[] {1, 2, 3, 6}) {
            x.delete(i);
        }
        x.commit();
        dueThrow("markedShare", ArithmeticException.class, () -> x.markedShare());
        dueThrow("meanSize", ArithmeticException.class, () -> x.meanSize());
    }

    private static void promise37Sound() {
        Quillroom x = room("fox dog", "dog cow", "cow fox fox");
        due("isSound", x.isSound() ? 1 : 0, 1);
        text(x, "fox \"dog cow\"").ask(-1, 's');
        x.setFilter(3);
        text(x, "fox ochs").addAlias();
        add(x, "fox", 0, -1);
        x.delete(0);
        due("isSound", x.isSound() ? 1 : 0, 1);
        x.commit();
        due("isSound", x.isSound() ? 1 : 0, 1);
        due("the answer stays", x.pageAt(), 0);
        due("page", x.page(3), 3);
        x.crash();
        due("isSound", x.isSound() ? 1 : 0, 1);
        x.setFilter(-1);
        dueHits("ochs", x, 3);
    }

    private static void fullText() {
        StringBuilder words = new StringBuilder();
        StringBuilder deep = new StringBuilder();
        for (int i = 0; i < 40; i++) {
            words.append((char) ('b' + i % 25)).append(' ');
        }
        for (int i = 0; i < 39; i++) {
            deep.append('(');
        }
        deep.append('b');
        for (int i = 0; i < 39; i++) {
            deep.append(')');
        }
        Quillroom x = room(words.toString(), words.substring(1) + "b");
        due("lengths", x.lengths(), 80);
        dueHits(deep.toString(), x, 0, 1);
        dueHits(words.toString(), x, 0, 1);
        due("passage", x.passage(0), 0);
        due("passageStems", x.passageStems(1), 5);
        StringBuilder longest = new StringBuilder();
        for (int i = 0; i < 80; i++) {
            longest.append('q');
        }
        for (int i = 2; i < 60; i++) {
            longest.setCharAt(i, 'r');
            add(x, longest.toString(), 0, i);
        }
        due("commit", x.commit(), 2);
        dueHits(longest.toString(), x, 59);
        // The stem q is ahead of all longer ones, which begin with more r in later documents.
        due("q*", text(x, "q*").ask(-1, 'u'), 9);
        due("hit", x.hit(6), 8);
        due("hit", x.hit(7), 0);
        due("suggest", text(x, longest.toString()).suggest(), 80);
        due("isSound", x.isSound() ? 1 : 0, 1);
        dueFault(longest.substring(0, 79) + "(", 79);
    }
}
