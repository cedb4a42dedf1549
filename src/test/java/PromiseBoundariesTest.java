import java.util.NoSuchElementException;

/** A case for each sentence of the promises, but for the exceptions, that names a boundary. */
public final class PromiseBoundariesTest extends Check {
    public static void main(String[] args) {
        newObject();
        typeAndErase();
        addAndDelete();
        addAlias();
        commitSyncCrash();
        segments();
        readers();
        fault();
        ask();
        ranks();
        pages();
        filters();
        passages();
        suggestions();
        stems();
        shares();
        sound();
        end();
    }

    private static void newObject() {
        of(1, "Creates an engine without documents, aliases, readers and a filter, with an empty text.", () -> {
            Quillroom x = new Quillroom();
            due("documents", x.documents(-1), 0);
            due("waiting", x.waiting(), 0);
            due("segments", x.segments(), 0);
            due("setFilter", x.setFilter(-1), -1);
            due("erase", x.erase(), 0);
            for (int reader = 0; reader < 3; reader++) {
                int closed = reader;
                dueThrow("documents", NoSuchElementException.class, x, y -> y.documents(closed));
            }
            due("openReader", x.openReader(), 0);
            due("addAlias", text(x, "b c").addAlias(), 1);
            due("add", x.add(0, -1), 0);
            dueThrow("delete", NoSuchElementException.class, new Quillroom(), y -> y.delete(0));
        });
    }

    private static void typeAndErase() {
        of(2, "Types a character behind the text.", () -> {
            Quillroom x = typed("(");
            x.type('b');
            due("fault", x.fault(), 2);
            x.type(')');
            dueThrow("fault", NoSuchElementException.class, x, y -> y.fault());
        });
        of(2, "Returns the number of characters.", () -> {
            Quillroom x = new Quillroom();
            for (int i = 1; i <= 80; i++) {
                due("type", x.type(i % 2 == 0 ? ' ' : 'b'), i);
            }
            x.erase();
            due("type behind erase", x.type('b'), 1);
        });
        of(3, "Takes the text away.", () -> {
            Quillroom x = typed("b1");
            x.erase();
            due("fault of the empty text", x.fault(), 0);
            x.type('b');
            dueThrow("fault", NoSuchElementException.class, x, y -> y.fault());
        });
        of(3, "Returns the number of characters that it had.", () -> {
            Quillroom x = new Quillroom();
            due("erase of none", x.erase(), 0);
            x.type('b');
            due("erase of one", x.erase(), 1);
            due("erase again", x.erase(), 0);
            due("erase of all 80", typed(times("b ", 40)).erase(), 80);
        });
    }

    private static void addAndDelete() {
        of(4, "Adds the text, which is taken away then, as a document.", () -> {
            Quillroom x = new Quillroom();
            due("the empty text", x.add(0, 3), 0);
            due("all 80 characters", add(x, times("b ", 40), 0, 3), 1);
            due("erase", x.erase(), 0);
            due("waiting", x.waiting(), 2);
            x.commit();
            due("documents", x.documents(-1), 2);
            dueHits(x, "b", "1 ");
            dueHits(x, "[3,3]", "0 1 ");
        });
        of(4, "`kind`: the kind, 0 to 6", () -> {
            due("the least kind", new Quillroom().add(0, 5), 0);
            due("the greatest kind", new Quillroom().add(6, 5), 0);
            dueThrow("below it", IllegalArgumentException.class, new Quillroom(), x -> x.add(-1, 5));
            dueThrow("above it", IllegalArgumentException.class, new Quillroom(), x -> x.add(7, 5));
        });
        of(4, "`value`: the value, 0 to 999, or -1 for none", () -> {
            Quillroom x = new Quillroom();
            due("none", x.add(0, -1), 0);
            due("the least value", x.add(0, 0), 1);
            due("the greatest value", x.add(0, 999), 2);
            dueThrow("below none", IllegalArgumentException.class, x, y -> y.add(0, -2));
            dueThrow("above it", IllegalArgumentException.class, x, y -> y.add(0, 1000));
            x.commit();
            due("ranges", hits(x, "[0,999]", 'd'), "2 1 ");
        });
        of(4, "Returns the number of the document.", () -> {
            Quillroom x = new Quillroom();
            for (int i = 0; i < 60; i++) {
                due("add", x.add(i % 7, i), i);
                if (i % 10 == 0) {
                    x.commit();
                }
            }
        });
        of(5, "Deletes a document, whether it waits or was committed.", () -> {
            Quillroom x = room("b", "b");
            added(x, "b", "b");
            due("delete a committed one", x.delete(0), 3);
            due("delete a waiting one", x.delete(3), 4);
            x.commit();
            dueHits(x, "b", "1 2 ");
            x.sync();
            added(x, "b");
            x.sync();
            due("delete a safe one", x.delete(4), 2);
            x.commit();
            dueHits(x, "b", "1 2 ");
        });
        of(5, "Returns the number of writes that wait.", () -> {
            Quillroom x = new Quillroom();
            for (int i = 0; i < 60; i++) {
                x.add(0, -1);
            }
            for (int i = 0; i < 60; i++) {
                due("delete", x.delete(59 - i), 61 + i);
            }
            due("commit", x.commit(), 0);
            Quillroom y = room("b");
            due("delete", y.delete(0), 1);
        });
    }

    private static void addAlias() {
        of(6, "the text has to be two words with one blank between them", () -> {
            due("two words", typed("b c").addAlias(), 1);
            due("the longest text", typed(times("b", 39) + " " + times("c", 40)).addAlias(), 1);
            String[] others = {"", " ", "b", "b ", " c", "b  c", " b c", "b c ", "b c d", "b,c", "b-c", "b1 c", "b c1", "+b c", "\"b c\"",
                times("b", 80)};
            for (String other : others) {
                dueThrow("addAlias of " + other, UnsupportedOperationException.class, typed(other), x -> x.addAlias());
            }
        });
        of(6, "the second one is an alias for the first one, both by their stems; then the text is taken away.", () -> {
            Quillroom x = new Quillroom();
            text(x, "cars autos").addAlias();
            due("erase", x.erase(), 0);
            added(x, "car", "auto").commit();
            dueHits(x, "auto", "0 1 ");
            dueHits(x, "autos", "0 1 ");
            dueHits(x, "car", "0 ");
        });
        of(6, "Returns the number of aliases.", () -> {
            Quillroom x = new Quillroom();
            for (int i = 1; i <= 6; i++) {
                due("addAlias", text(x, times("b", i) + " c").addAlias(), i);
            }
        });
    }

    private static void commitSyncCrash() {
        of(7, "Returns the number of segments.", () -> {
            Quillroom x = new Quillroom();
            due("without a write", x.commit(), 0);
            x.add(0, -1);
            due("the first one", x.commit(), 1);
            due("without a write", x.commit(), 1);
            x.add(0, -1);
            due("the second one", x.commit(), 2);
            x.add(0, -1);
            due("the third one", x.commit(), 1);
            x.delete(0);
            x.delete(1);
            x.delete(2);
            due("without documents", x.commit(), 0);
        });
        of(8, "Returns the number of writes that wait and are safe.", () -> {
            Quillroom x = new Quillroom();
            due("none", x.sync(), 0);
            x.add(0, -1);
            due("one", x.sync(), 1);
            due("again", x.sync(), 1);
            x.delete(0);
            due("two", x.sync(), 2);
            x.commit();
            due("none behind a commit", x.sync(), 0);
            Quillroom y = new Quillroom();
            for (int i = 0; i < 60; i++) {
                y.add(0, -1);
                y.delete(i);
            }
            due("all that there can be", y.sync(), 120);
            due("crash", y.crash(), 0);
        });
        of(9, "Returns the number of writes that are taken away.", () -> {
            Quillroom x = new Quillroom();
            due("none", x.crash(), 0);
            x.add(0, -1);
            due("one", x.crash(), 1);
            due("again", x.crash(), 0);
            x.add(0, -1);
            x.sync();
            due("none as it is safe", x.crash(), 0);
            x.delete(1);
            due("the one that is not safe", x.crash(), 1);
            x.commit();
            due("none behind a commit", x.crash(), 0);
            Quillroom y = new Quillroom();
            for (int i = 0; i < 60; i++) {
                y.add(0, -1);
                y.delete(i);
            }
            due("all that there can be", y.crash(), 120);
        });
        of(10, "Returns the number of writes.", () -> {
            Quillroom x = new Quillroom();
            due("none", x.waiting(), 0);
            for (int i = 0; i < 60; i++) {
                x.add(0, -1);
                due("waiting", x.waiting(), 2 * i + 1);
                x.delete(i);
                due("waiting", x.waiting(), 2 * i + 2);
            }
            x.commit();
            due("none behind a commit", x.waiting(), 0);
        });
    }

    private static void segments() {
        of(11, "Returns the number of segments.", () -> {
            Quillroom x = new Quillroom();
            due("none", x.segments(), 0);
            x.add(0, -1);
            due("none ahead of the commit", x.segments(), 0);
            segments(x, 1);
            due("one", x.segments(), 1);
            due("two of each tier", segments(new Quillroom(), 7, 7, 3, 3, 1, 1).segments(), 6);
        });
        of(12, "Returns the number of documents of a segment, marked ones included.", () -> {
            Quillroom x = segments(new Quillroom(), 59);
            x.add(0, -1);
            x.commit();
            for (int i = 0; i < 58; i++) {
                x.delete(i);
            }
            x.commit();
            due("the first one", x.sizeOf(0), 59);
            due("the last one", x.sizeOf(1), 1);
            due("all 60", segments(new Quillroom(), 60).sizeOf(0), 60);
        });
        of(13, "Returns the number of documents of a segment that are not marked.", () -> {
            Quillroom x = segments(new Quillroom(), 60);
            due("none is marked", x.liveIn(0), 60);
            for (int i = 0; i < 59; i++) {
                x.delete(i);
            }
            due("none is marked yet", x.liveIn(0), 60);
            x.commit();
            due("all but one are marked", x.liveIn(0), 1);
        });
        of(14, "`place`: the place in it, from 0, marked ones included", () -> {
            Quillroom x = segments(new Quillroom(), 3, 57);
            x.delete(0);
            x.delete(2);
            x.commit();
            for (int place = 0; place < 3; place++) {
                due("documentAt", x.documentAt(0, place), place);
            }
            due("the first place", x.documentAt(1, 0), 3);
            due("the last place", x.documentAt(1, 56), 59);
            dueThrow("behind it", IndexOutOfBoundsException.class, x, y -> y.documentAt(1, 57));
            dueThrow("behind it", IndexOutOfBoundsException.class, x, y -> y.documentAt(0, 3));
        });
        of(14, "Returns the number of the document.", () -> {
            Quillroom x = new Quillroom();
            x.add(0, -1);
            x.delete(0);
            segments(x, 1);
            due("documentAt", x.documentAt(0, 0), 1);
        });
        of(15, "Returns how many merges were done.", () -> {
            Quillroom x = segments(new Quillroom(), 1, 1);
            due("none", x.merges(), 0);
            segments(x, 1);
            due("one", x.merges(), 1);
            due("two at once", segments(new Quillroom(), 3, 3, 1, 1, 1).merges(), 2);
            Quillroom y = new Quillroom();
            for (int i = 0; i < 60; i++) {
                segments(y, 1);
            }
            // Ones become 20 segments of 3, these become 6 of 9 and two of 3 stay, and the six of 9 become two of 27.
            due("60 segments of one", y.merges(), 28);
            due("segments", y.segments(), 4);
        });
        of(12, "`segment`: the place of the segment, from 0", () -> {
            Quillroom x = segments(new Quillroom(), 3, 1);
            due("sizeOf", x.sizeOf(0), 3);
            due("sizeOf", x.sizeOf(1), 1);
        });
        of(13, "`segment`: the place of the segment, from 0", () -> {
            Quillroom x = segments(new Quillroom(), 3, 1);
            due("liveIn", x.liveIn(0), 3);
            due("liveIn", x.liveIn(1), 1);
        });
        of(14, "`segment`: the place of the segment, from 0", () -> {
            Quillroom x = segments(new Quillroom(), 3, 1);
            due("documentAt", x.documentAt(0, 0), 0);
            due("documentAt", x.documentAt(1, 0), 3);
        });
    }

    private static void readers() {
        of(16, "Returns the lowest number that is free.", () -> {
            Quillroom x = new Quillroom();
            due("openReader", x.openReader(), 0);
            due("openReader", x.openReader(), 1);
            due("openReader", x.openReader(), 2);
            x.closeReader(2);
            x.closeReader(0);
            due("the lowest of two", x.openReader(), 0);
            due("the other one", x.openReader(), 2);
            x.closeReader(1);
            due("the middle one", x.openReader(), 1);
        });
        of(17, "Returns the number of readers that are open then.", () -> {
            Quillroom x = new Quillroom();
            x.openReader();
            x.openReader();
            x.openReader();
            due("two", x.closeReader(1), 2);
            due("one", x.closeReader(0), 1);
            due("none", x.closeReader(2), 0);
        });
        of(18, "`reader`: the reader, or -1 for the last commit", () -> {
            Quillroom x = room("b");
            x.openReader();
            x.openReader();
            x.openReader();
            added(x, "b").commit();
            due("the reader 0", x.documents(0), 1);
            due("the reader 2", x.documents(2), 1);
            due("the last commit", x.documents(-1), 2);
            x.delete(0);
            x.commit();
            due("the reader 0 behind a deletion", x.documents(0), 1);
        });
        of(18, "Returns the number of documents.", () -> {
            Quillroom x = new Quillroom();
            due("none", x.documents(-1), 0);
            x.openReader();
            segments(x, 60);
            due("all 60", x.documents(-1), 60);
            due("none of the reader", x.documents(0), 0);
            x.delete(59);
            due("ahead of the commit", x.documents(-1), 60);
            x.commit();
            due("behind it", x.documents(-1), 59);
        });
    }

    private static void fault() {
        of(19, "Returns the place, from 0; the number of characters if it is at the end.", () -> {
            dueFault(")", 0);
            dueFault("", 0);
            dueFault("(", 1);
            dueFault(times("b", 79) + ")", 79);
            dueFault(times("(", 79) + "b", 80);
            Quillroom x = typed("b 1");
            due("fault", x.fault(), 2);
            due("fault again", x.fault(), 2);
            due("the text stays", x.erase(), 3);
        });
    }

    private static void ask() {
        of(20, "Asks the text, which stays, as a question.", () -> {
            Quillroom x = room("b");
            due("ask", ask(x, "(b) "), 1);
            due("ask again", x.ask(-1, 'u'), 1);
            due("erase", x.erase(), 4);
        });
        of(20, "`reader`: the reader, or -1 for the last commit", () -> {
            Quillroom x = room("b");
            x.openReader();
            added(x, "b").commit();
            x.openReader();
            x.delete(0);
            x.delete(1);
            x.commit();
            x.openReader();
            text(x, "b");
            due("the reader 0", x.ask(0, 's'), 1);
            due("the reader 1", x.ask(1, 's'), 2);
            due("the reader 2", x.ask(2, 's'), 0);
            due("the last commit", x.ask(-1, 's'), 0);
        });
        of(20, "`order`: the order, 's', 'u' or 'd'", () -> {
            Quillroom x = typed("b");
            for (int order = 0; order < 300; order++) {
                char told = (char) order;
                if (order == 's' || order == 'u' || order == 'd') {
                    due("ask in the order " + order, x.ask(-1, told), 0);
                } else {
                    dueThrow("ask in the order " + order, IllegalArgumentException.class, x, y -> y.ask(-1, told));
                }
            }
        });
        of(20, "Returns the number of documents that are answered.", () -> {
            Quillroom x = new Quillroom();
            due("of an empty engine", ask(x, "b"), 0);
            x.erase();
            for (int i = 0; i < 60; i++) {
                x.add(i % 7, i);
            }
            x.commit();
            due("none", ask(x, "b"), 0);
            due("one", ask(x, "[59,999]"), 1);
            due("all 60", ask(x, "[0,59]"), 60);
            x.setFilter(6);
            due("those of the filter", ask(x, "[0,59]"), 8);
        });
    }

    private static void ranks() {
        of(21, "`rank`: the rank, from 0", () -> {
            Quillroom x = room("b", "c", "b b");
            ask(x, "b");
            due("the first one", x.hit(0), 2);
            due("the last one", x.hit(1), 0);
        });
        of(21, "Returns the number of the document.", () -> {
            Quillroom x = segments(new Quillroom(), 59);
            add(x, "b", 0, 1);
            x.commit();
            ask(x, "b");
            due("the greatest number", x.hit(0), 59);
        });
        of(22, "Returns the bits of the score of a document of the answer, as Float.floatToIntBits tells them.", () -> {
            Quillroom x = room("b", "b" + times(" x", 39));
            dueScore(x, "b", 1, score(1.0f, 1, 40, (float) 41 / (float) 2));
            dueScore(x, "b*", 0, 1.0f);
            dueScore(x, "b* b*", 0, 2.0f);
            dueScore(x, times("b* ", 26), 0, 26.0f);
        });
        of(22, "Returns the bits.", () -> {
            Quillroom x = room("b");
            ask(x, "b~");
            due("the bits of 1.0f", x.scoreBits(0), 0x3f800000);
            ask(x, "b~ b~ b~");
            due("the bits of 3.0f", x.scoreBits(0), 0x40400000);
        });
        of(22, "`rank`: the rank, from 0", () -> {
            Quillroom x = room("b", "bc b", "c");
            ask(x, "b* b~ bc*");
            due("the first one", x.scoreBits(0), Float.floatToIntBits(3.0f));
            due("the last one", x.scoreBits(1), Float.floatToIntBits(2.0f));
        });
        of(23, "Returns the value of a document of the answer.", () -> {
            Quillroom x = new Quillroom();
            add(x, "b", 0, 0);
            add(x, "b", 0, 999);
            x.commit();
            ask(x, "b");
            due("the least value", x.valueOf(0), 0);
            due("the greatest value", x.valueOf(1), 999);
        });
        of(23, "Returns the value.", () -> {
            Quillroom x = new Quillroom();
            add(x, "b", 0, 7);
            x.commit();
            ask(x, "b");
            x.delete(0);
            x.commit();
            due("of a deleted document", x.valueOf(0), 7);
        });
        of(23, "`rank`: the rank, from 0", () -> {
            Quillroom x = new Quillroom();
            x.add(0, 5);
            x.add(0, 4);
            x.commit();
            text(x, "[0,9]").ask(-1, 'u');
            due("the first one", x.valueOf(0), 4);
            due("the last one", x.valueOf(1), 5);
        });
    }

    private static Quillroom answerOf(int many) {
        Quillroom x = segments(new Quillroom(), 60 - many);
        for (int i = 0; i < many; i++) {
            x.add(0, i);
        }
        x.commit();
        ask(x, "[0,999]");
        return x;
    }

    private static void pages() {
        of(24, "Goes on in the answer, from its beginning at first.", () -> {
            Quillroom x = answerOf(3);
            due("at first", x.pageAt(), 0);
            x.page(2);
            due("behind two", x.pageAt(), 2);
            x.ask(-1, 's');
            due("the next answer", x.pageAt(), 0);
        });
        of(24, "`many`: how many documents are to come at most, 1 to 20", () -> {
            Quillroom x = answerOf(60);
            due("one", x.page(1), 1);
            due("20", x.page(20), 20);
            due("pageAt", x.pageAt(), 21);
            dueThrow("none", IllegalArgumentException.class, x, y -> y.page(0));
            dueThrow("21", IllegalArgumentException.class, x, y -> y.page(21));
        });
        of(24, "Returns how many come.", () -> {
            Quillroom x = answerOf(41);
            due("20", x.page(20), 20);
            due("20", x.page(20), 20);
            due("the last one", x.page(20), 1);
            due("none comes", x.page(1), 0);
            due("as many as there are", answerOf(20).page(20), 20);
            due("one less", answerOf(19).page(20), 19);
            due("of an empty answer", answerOf(0).page(20), 0);
        });
        of(25, "Returns the rank, or the number of documents of the answer if none comes any more.", () -> {
            Quillroom x = answerOf(3);
            x.page(2);
            due("the last one", x.pageAt(), 2);
            x.page(1);
            due("none comes", x.pageAt(), 3);
            x.page(20);
            due("none comes", x.pageAt(), 3);
            due("of an empty answer", answerOf(0).pageAt(), 0);
        });
    }

    private static void filters() {
        of(26, "Sets the filter, for the next questions.", () -> {
            Quillroom x = new Quillroom();
            add(x, "b", 1, -1);
            add(x, "b", 2, -1);
            x.commit();
            ask(x, "b");
            x.setFilter(2);
            due("the answer ahead", ranked(x, 2), "0 1 ");
            due("it is sound", x.isSound() ? 1 : 0, 1);
            dueHits(x, "b", "1 ");
            dueHits(x, "b b", "1 ");
            x.setFilter(-1);
            due("the answer ahead", x.page(20), 1);
            dueHits(x, "b", "0 1 ");
        });
        of(26, "`kind`: the kind, 0 to 6, or -1 for none", () -> {
            for (int kind = -1; kind <= 6; kind++) {
                due("setFilter", new Quillroom().setFilter(kind), -1);
            }
            dueThrow("below none", IllegalArgumentException.class, new Quillroom(), x -> x.setFilter(-2));
            dueThrow("above 6", IllegalArgumentException.class, new Quillroom(), x -> x.setFilter(7));
        });
        of(26, "Returns the kind before, or -1.", () -> {
            Quillroom x = new Quillroom();
            due("none", x.setFilter(0), -1);
            due("the least one", x.setFilter(6), 0);
            due("the greatest one", x.setFilter(6), 6);
            due("the same one", x.setFilter(-1), 6);
            due("none", x.setFilter(-1), -1);
        });
        of(27, "Returns how many documents of a kind the question of the answer holds in, without its filter, at its commit.", () -> {
            Quillroom x = new Quillroom();
            for (int i = 0; i < 60; i++) {
                x.add(i % 7, i);
            }
            x.commit();
            x.setFilter(5);
            due("ask", ask(x, "[0,59]"), 8);
            x.delete(0);
            x.delete(6);
            x.commit();
            x.setFilter(6);
            int[] want = {60, 26, 25, 9, 8, 8, 8};
            for (int kind = 0; kind <= 6; kind++) {
                due("facet " + kind, x.facet(kind), want[kind]);
            }
            ask(x, "b");
            due("facet of an empty answer", x.facet(0), 0);
            ask(x, "[0,59]");
            due("behind the commit", x.facet(0), 58);
        });
        of(27, "`kind`: the kind, 0 to 6", () -> {
            Quillroom x = answerOf(2);
            due("the least kind", x.facet(0), 2);
            due("the greatest kind", x.facet(6), 0);
            dueThrow("below it", IllegalArgumentException.class, x, y -> y.facet(-1));
            dueThrow("above it", IllegalArgumentException.class, x, y -> y.facet(7));
        });
        of(27, "Returns the number of documents.", () -> {
            due("none", answerOf(0).facet(0), 0);
            due("all 60", answerOf(60).facet(0), 60);
        });
    }

    private static void duePassage(String question, String text, int place, int stems) {
        Quillroom x = new Quillroom();
        add(x, text, 0, 5);
        x.commit();
        ask(x, question);
        due("passage of " + question + " in " + text, x.passage(0), place);
        due("passageStems of " + question + " in " + text, x.passageStems(0), stems);
    }

    private static void passages() {
        of(28, "of all rows of 5 places, from that of a word on, the first one at whose places are the most different stems of the question",
            () -> {
                duePassage("p q", "p x x x q", 0, 2);
                duePassage("p q", "p x x x x q", 0, 1);
                duePassage("p q", "x p x x x q", 1, 2);
                duePassage("p q", "p x x x x q p", 2, 2);
                duePassage("p", "p p p", 0, 1);
                duePassage("p", "x x x x p", 0, 1);
                duePassage("p", "x x x x x p", 1, 1);
                duePassage("p", "a x the x of p", 1, 1);
                duePassage("p q", times("x ", 38) + "p q", 35, 2);
                duePassage("p", "p" + times(" x", 39), 0, 1);
                duePassage("p q r", "p p p q x q r x p", 2, 3);
                duePassage("[5,5] p", "x x", 0, 0);
                duePassage("[5,5] the", "the", 0, 0);
            });
        of(28, "those of its words and phrases, also in brackets, which do not stand, nor their brackets, behind \"-\".", () -> {
            duePassage("p (q (+\"r the s\"))", "p x x x x x r a s q", 5, 3);
            duePassage("x -p", "x x x x x x", 0, 1);
            duePassage("x -(p +q)", "x x x x x x p", 0, 1);
            duePassage("x (x -(x (p)) )", "x", 0, 1);
            duePassage("x (p -r) ", "x x x x x x p", 2, 2);
            duePassage("x p -(+p +z)", "x x x x x x p", 2, 2);
            duePassage("x p* q~", "x x x x x x p q", 0, 1);
            duePassage("x \"p z\"", "x x x x x x p", 2, 2);
        });
        of(28, "Returns the place.", () -> {
            duePassage("p", "p", 0, 1);
            duePassage("p q r s y", times("x ", 35) + "p q r s y", 35, 5);
        });
        of(28, "`rank`: the rank, from 0", () -> {
            Quillroom x = room("x x x x x p", "p p");
            ask(x, "p");
            due("the first one", x.passage(0), 0);
            due("the last one", x.passage(1), 1);
        });
        of(29, "Returns how many different stems are in this passage.", () -> {
            duePassage("[0,9] p", "x", 0, 0);
            duePassage("p", "p p p p p", 0, 1);
            duePassage("p p \"p ps\"~9", "p ps", 0, 2);
            duePassage("p q r s y z", "p q r s y z", 0, 5);
            Quillroom x = new Quillroom();
            for (String alias : new String[] {"b", "c", "d", "e", "f", "g"}) {
                text(x, "p " + alias).addAlias();
            }
            added(x, "p").commit();
            ask(x, "p b c d e f g");
            due("passageStems of aliases", x.passageStems(0), 7);
        });
        of(29, "Returns the number of stems.", () -> {
            duePassage("the p", "the p of p", 0, 1);
            duePassage("p q", "p x x x x q x p", 3, 2);
        });
        of(29, "`rank`: the rank, from 0", () -> {
            Quillroom x = room("q x x x x x x p", "p q");
            ask(x, "p q");
            due("the first one", x.passageStems(0), 2);
            due("the last one", x.passageStems(1), 1);
        });
    }

    private static void suggestions() {
        of(30, "Suggests a stem for the text, which has to be one word, that stays", () -> {
            Quillroom x = room("b", times("c", 80));
            due("a word of one letter", suggested(x, "b"), "b");
            due("erase", x.erase(), 1);
            due("a word of 80 letters", suggested(x, times("c", 80)), times("c", 80));
            due("erase", x.erase(), 80);
            for (String bad : new String[] {"", " ", "b ", " b", "b c", "b1", "b~"}) {
                dueThrow("suggest for " + bad, UnsupportedOperationException.class, text(x, bad), y -> y.suggest());
            }
        });
        of(30, "of all stems that stand at places in documents of the last commit, aliases, too", () -> {
            Quillroom x = room("apple");
            text(x, "pear birne").addAlias();
            text(x, "birne");
            dueThrow("of no document", NoSuchElementException.class, x, y -> y.suggest());
            added(x, "pear", "the");
            text(x, "birne");
            dueThrow("of one that waits", NoSuchElementException.class, x, y -> y.suggest());
            x.commit();
            due("an alias", suggested(x, "birne"), "birne");
            text(x, "the");
            dueThrow("a stop is at no place", NoSuchElementException.class, x, y -> y.suggest());
            x.openReader();
            x.delete(1);
            due("of one that is deleted at the next commit", suggested(x, "birne"), "birne");
            x.commit();
            text(x, "birne");
            dueThrow("of one that is deleted", NoSuchElementException.class, x, y -> y.suggest());
        });
        of(30, "whose distance from its stem is 2 at most", () -> {
            due("none", suggested(room("apple"), "apple"), "apple");
            due("none of the stems", suggested(room("apple"), "apples"), "apple");
            due("one", suggested(room("apple"), "appl"), "apple");
            due("two left out", suggested(room("apple"), "apppple"), "apple");
            due("two put in", suggested(room("apple"), "ple"), "apple");
            due("two changed", suggested(room("apple"), "orple"), "apple");
            due("one put in and one left out", suggested(room("apple"), "pplex"), "apple");
            due("of a stem with two letters", suggested(room("bc"), "x"), "bc");
            String[] far = {"ap", "le", "appppple", "orrle", "orplex", "xplex"};
            for (String text : far) {
                dueThrow("suggest for " + text, NoSuchElementException.class, text(room("apple"), text), x -> x.suggest());
            }
            dueThrow("three left out", NoSuchElementException.class, text(room("bcd"), "x"), x -> x.suggest());
        });
        of(30, "the least distance first, then most documents, then their order", () -> {
            Quillroom x = room("bat", "cats", "cats", "dat", "dat", "eats", "dogs");
            due("the least distance", suggested(x, "bat"), "bat");
            due("most documents, then their order", suggested(x, "hat"), "cat");
            due("distance 2", suggested(x, "dig"), "dog");
            x.delete(1);
            due("ahead of the commit", suggested(x, "hat"), "cat");
            x.commit();
            due("most documents of the last commit", suggested(x, "hat"), "dat");
            x.delete(4);
            x.commit();
            due("their order", suggested(x, "hat"), "bat");
            due("the shorter one is ahead", suggested(room("bcx", "bc"), "bcd"), "bc");
            due("documents, not places", suggested(room("b", "c c c", "b"), "x"), "b");
        });
        of(30, "Returns the length of the stem.", () -> {
            due("one", text(room("b"), "c").suggest(), 1);
            due("80", text(room(times("b", 80)), times("b", 78)).suggest(), 80);
            due("of the stem, not of the text", text(room("jumping"), "jumps").suggest(), 4);
        });
        of(31, "Returns a character of the stem that was suggested last.", () -> {
            Quillroom x = room("bat", "cow");
            suggested(x, "bat");
            suggested(x, "cow");
            due("the last one", x.suggestedAt(0), 'c');
            text(x, "zzzzz");
            dueThrow("suggest", NoSuchElementException.class, x, y -> y.suggest());
            text(x, "z 1");
            dueThrow("suggest", UnsupportedOperationException.class, x, y -> y.suggest());
            due("it stays", x.suggestedAt(2), 'w');
            x.delete(1);
            x.commit();
            x.crash();
            due("it stays", x.suggestedAt(1), 'o');
        });
        of(31, "`index`: the index, from 0", () -> {
            Quillroom x = room("z" + times("b", 78) + "y");
            text(x, "z" + times("b", 78)).suggest();
            due("the first one", x.suggestedAt(0), 'z');
            due("the last one", x.suggestedAt(79), 'y');
        });
        of(31, "Returns the character.", () -> {
            Quillroom x = room("az");
            text(x, "az").suggest();
            due("the first letter", x.suggestedAt(0), 'a');
            due("the last letter", x.suggestedAt(1), 'z');
        });
    }

    private static void stems() {
        of(32, "Returns the number of documents of a reader that have the stem of the text, which has to be one word, at a place.", () -> {
            Quillroom x = new Quillroom();
            text(x, "car auto").addAlias();
            added(x, "jumps jumping", "jump", "the car", "thes").commit();
            due("by its stem", text(x, "jumped").frequency(-1), 2);
            due("an alias", text(x, "autos").frequency(-1), 1);
            due("none", text(x, "b").frequency(-1), 0);
            due("the stem of thes", text(x, "thes").frequency(-1), 1);
            due("erase", x.erase(), 4);
            for (String bad : new String[] {"", " ", "b ", " b", "b c", "b1", "b*"}) {
                dueThrow("frequency of " + bad, UnsupportedOperationException.class, text(x, bad), y -> y.frequency(-1));
            }
        });
        of(32, "`reader`: the reader, or -1 for the last commit", () -> {
            Quillroom x = room("b");
            x.openReader();
            added(x, "b").commit();
            x.openReader();
            x.openReader();
            added(x, "b");
            text(x, "b");
            due("the reader 0", x.frequency(0), 1);
            due("the reader 2", x.frequency(2), 2);
            due("the last commit", x.frequency(-1), 2);
        });
        of(32, "Returns the number of documents.", () -> {
            Quillroom x = new Quillroom();
            due("of an empty engine", text(x, "b").frequency(-1), 0);
            for (int i = 0; i < 60; i++) {
                added(x, "b b");
            }
            x.commit();
            due("all 60", text(x, "b").frequency(-1), 60);
        });
        of(33, "Returns the number of different stems that stand at places in documents of the last commit, aliases, too.", () -> {
            Quillroom x = new Quillroom();
            due("none", x.stems(), 0);
            text(x, "car auto").addAlias();
            text(x, "auto wagon").addAlias();
            due("of no document", x.stems(), 0);
            added(x, "the cars car");
            due("of one that waits", x.stems(), 0);
            x.commit();
            due("an alias, too", x.stems(), 2);
            added(x, "auto b", "a of").commit();
            due("stems", x.stems(), 4);
            x.delete(1);
            due("ahead of the commit", x.stems(), 4);
            x.commit();
            due("behind it", x.stems(), 2);
            x.delete(0);
            x.commit();
            due("of stops alone", x.stems(), 0);
        });
        of(33, "Returns the number of stems.", () -> {
            StringBuilder words = new StringBuilder();
            for (char letter = 'b'; letter <= 'z'; letter++) {
                words.append(letter).append(' ');
            }
            due("25", room(words.toString(), words.toString()).stems(), 25);
        });
        of(34, "Returns the sum of the lengths of all documents of the last commit.", () -> {
            Quillroom x = new Quillroom();
            due("none", x.lengths(), 0);
            added(x, "the b b", "", "a");
            due("of what waits", x.lengths(), 0);
            x.commit();
            due("two", x.lengths(), 2);
            added(x, times("b ", 40)).commit();
            due("42", x.lengths(), 42);
            x.delete(0);
            due("ahead of the commit", x.lengths(), 42);
            x.commit();
            due("behind it", x.lengths(), 40);
        });
        of(34, "Returns the sum.", () -> {
            due("of documents without words", room("", "the", "1").lengths(), 0);
            due("five documents of 40 words", room(times("b ", 40), times("c ", 40), times("d ", 40), times("e ", 40),
                    times("f ", 40)).lengths(), 200);
        });
    }

    private static void shares() {
        of(35, "Returns their number divided by that of all, both converted to float.", () -> {
            Quillroom x = segments(new Quillroom(), 3);
            due("none is marked", x.markedShare(), 0.0f);
            x.delete(0);
            due("none is marked yet", x.markedShare(), 0.0f);
            x.commit();
            due("a third", x.markedShare(), (float) 1 / (float) 3);
            x.add(0, -1);
            due("without the one that waits", x.markedShare(), (float) 1 / (float) 3);
            x.crash();
            x.delete(1);
            x.commit();
            due("two thirds", x.markedShare(), (float) 2 / (float) 3);
            segments(x, 4);
            due("of all segments", x.markedShare(), (float) 2 / (float) 7);
            x.delete(2);
            x.commit();
            due("none, as the segment is gone", x.markedShare(), 0.0f);
            Quillroom y = segments(new Quillroom(), 60);
            for (int i = 1; i < 60; i++) {
                y.delete(i);
            }
            y.commit();
            due("all but one of 60", y.markedShare(), (float) 59 / (float) 60);
        });
        of(36, "Returns the sum divided by the number of segments, both converted to double.", () -> {
            due("one segment", segments(new Quillroom(), 60).meanSize(), 60.0);
            due("one document", segments(new Quillroom(), 1).meanSize(), 1.0);
            due("two segments", segments(new Quillroom(), 1, 2).meanSize(), 1.5);
            Quillroom x = segments(new Quillroom(), 7, 3, 1);
            x.delete(0);
            x.commit();
            due("marked ones included", x.meanSize(), (double) 11 / (double) 3);
            x.delete(10);
            x.commit();
            due("two are left", x.meanSize(), 5.0);
        });
    }

    private static void dueSound(String what, Quillroom x) {
        due("isSound " + what, x.isSound() ? 1 : 0, 1);
    }

    private static void sound() {
        of(37, "Returns whether all of this holds.", () -> {
            Quillroom x = new Quillroom();
            dueSound("of an empty engine", x);
            ask(x, "b");
            dueSound("with an empty answer", x);
            added(x, "b c", "c b b").commit();
            dueSound("with an answer of an earlier commit", x);
            ask(x, "b \"b c\" (c -x) c*");
            dueSound("with an answer", x);
            text(x, "c d").addAlias();
            x.setFilter(6);
            x.openReader();
            x.delete(0);
            x.commit();
            dueSound("with a deleted document", x);
            text(x, "b").ask(0, 'd');
            dueSound("with a filter that leaves none", x);
            x.delete(1);
            x.commit();
            x.crash();
            dueSound("without documents", x);
            due("the answer stays", x.facet(0), 2);
            due("the text stays", x.erase(), 1);
        });
        of(37, "by looking at the texts of all documents anew", () -> {
            Quillroom x = room("car", "auto car", "the");
            text(x, "car auto").addAlias();
            ask(x, "auto \"car auto\"~9");
            dueSound("with an alias that no document has", x);
            added(x, "car auto").commit();
            dueSound("with an alias that came later", x);
            ask(x, "auto car");
            text(x, "auto bus").addAlias();
            dueSound("with documents of both sorts", x);
            due("passageStems", x.passageStems(0), 2);
        });
        of(37, "if there is one", () -> {
            Quillroom x = room("b");
            dueSound("without an answer", x);
            x.delete(0);
            dueSound("with a write that waits", x);
            x.commit();
            dueSound("without an answer", x);
            dueThrow("it makes no answer", IllegalStateException.class, x, y -> y.pageAt());
        });
    }
}
