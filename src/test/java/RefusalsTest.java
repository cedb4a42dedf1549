import java.util.NoSuchElementException;

/**
 * A case for each exception of each promise, one for each promise that throws that it changes
 * nothing then, and one for each with several exceptions that the one listed first is thrown.
 */
public final class RefusalsTest extends Check {
    private static final String NOTHING = "A method that throws an exception changes nothing.";
    private static final String FIRST = "If several exceptions apply, the one that is listed first is thrown.";
    private static final Class<?> ARGUMENT = IllegalArgumentException.class;
    private static final Class<?> STATE = IllegalStateException.class;
    private static final Class<?> INDEX = IndexOutOfBoundsException.class;
    private static final Class<?> ELEMENT = NoSuchElementException.class;
    private static final Class<?> SUPPORT = UnsupportedOperationException.class;
    private static final Class<?> ARITHMETIC = ArithmeticException.class;
    private static final int[] FAR = {Integer.MIN_VALUE, Integer.MIN_VALUE + 1, -65536, -1000, -64, -60, Integer.MAX_VALUE - 1,
        Integer.MAX_VALUE, 65536, 1 << 30};
    private static final String[] NO_WORDS = {"", " ", "b ", " b", "b c", "b1", "1", "b*", "b~", "\"b\"", "+b", "(b)"};

    /** A way to make an object. */
    private interface Start {
        Quillroom make();
    }

    public static void main(String[] args) {
        type();
        add();
        delete();
        addAlias();
        sizeAndLive();
        documentAt();
        openReader();
        closeReader();
        documents();
        fault();
        ask();
        hit();
        scoreBits();
        valueOf();
        page();
        pageAt();
        setFilter();
        facet();
        passage();
        passageStems();
        suggest();
        suggestedAt();
        frequency();
        shares();
        eachHasItsCase("Throws ");
        end();
    }

    /** An object with something of everything, and a text. */
    private static Quillroom rich(String text) {
        Quillroom x = new Quillroom();
        text(x, "car auto").addAlias();
        add(x, "b c b", 3, 5);
        add(x, "car bb", 6, -1);
        add(x, "", 0, 7);
        x.commit();
        x.openReader();
        add(x, "c d", 1, 0);
        x.delete(1);
        x.commit();
        ask(x, "b c [7,7]");
        x.page(1);
        text(x, "bs").suggest();
        added(x, "w");
        x.sync();
        x.delete(0);
        added(x, "v");
        x.setFilter(1);
        return text(x, text);
    }

    /** It with all documents that there can be. */
    private static Quillroom full(String text) {
        Quillroom x = rich("");
        for (int document = 6; document < 60; document++) {
            due("add", x.add(0, -1), document);
        }
        return text(x, text);
    }

    private static Quillroom sixAliases(String text) {
        Quillroom x = rich("");
        for (String alias : new String[] {"dog hund", "dogs tier", "b beta", "c gamma", "car wagon"}) {
            text(x, alias).addAlias();
        }
        return text(x, text);
    }

    private static Quillroom threeReaders() {
        Quillroom x = rich("b");
        x.openReader();
        x.openReader();
        return x;
    }

    /** What the face tells of one side of an object, in the end by calls that change it. */
    private static String told(int side, Quillroom x) {
        StringBuilder told = new StringBuilder();
        switch (side) {
            case 0: tellText(x, told); break;
            case 1: tellWrites(x, told); break;
            case 2: tellAnswer(x, told); break;
            case 3: tellReaders(x, told); break;
            default: tellAliases(x, told); break;
        }
        return told.toString();
    }

    private interface Asked {
        int answer();
    }

    private static void tell(StringBuilder told, Asked call) {
        try {
            told.append(call.answer());
        } catch (RuntimeException e) {
            told.append(e.getClass().getSimpleName());
        }
        told.append(' ');
    }

    private static void tellText(Quillroom x, StringBuilder told) {
        tell(told, () -> x.fault());
        tell(told, () -> x.frequency(-1));
        tell(told, () -> x.ask(-1, 's'));
        tell(told, () -> x.type('b'));
        tell(told, () -> x.add(0, 8));
        tell(told, () -> x.commit());
        tell(told, () -> x.stems());
        tell(told, () -> (int) x.lengths());
        x.setFilter(-1);
        for (String question : new String[] {"a*", "b*", "c*", "d*", "cb", "bb", "\"b c\"", "[8,8]"}) {
            tell(told, () -> ask(x, question));
        }
    }

    private static void tellWrites(Quillroom x, StringBuilder told) {
        tell(told, () -> x.waiting());
        tell(told, () -> x.merges());
        for (int segment = 0; segment <= x.segments(); segment++) {
            tellSegment(x, segment, told);
        }
        for (int document = 0; document < 7; document++) {
            int one = document;
            tell(told, () -> x.delete(one));
        }
        tell(told, () -> x.crash());
        tell(told, () -> x.waiting());
        tell(told, () -> x.add(0, -1));
        tell(told, () -> x.commit());
        for (int segment = 0; segment <= x.segments(); segment++) {
            tellSegment(x, segment, told);
        }
        tell(told, () -> x.documents(-1));
    }

    private static void tellSegment(Quillroom x, int segment, StringBuilder told) {
        tell(told, () -> x.sizeOf(segment));
        tell(told, () -> x.liveIn(segment));
        for (int place = 0; place < 6; place++) {
            int one = place;
            tell(told, () -> x.documentAt(segment, one));
        }
    }

    private static void tellAnswer(Quillroom x, StringBuilder told) {
        for (int rank = 0; rank < 4; rank++) {
            int one = rank;
            tell(told, () -> x.hit(one));
            tell(told, () -> x.scoreBits(one));
            tell(told, () -> x.valueOf(one));
            tell(told, () -> x.passage(one));
            tell(told, () -> x.passageStems(one));
        }
        for (int kind = 0; kind < 7; kind++) {
            int one = kind;
            tell(told, () -> x.facet(one));
        }
        tell(told, () -> x.isSound() ? 1 : 0);
        tell(told, () -> x.pageAt());
        tell(told, () -> x.page(1));
        tell(told, () -> x.pageAt());
    }

    private static void tellReaders(Quillroom x, StringBuilder told) {
        for (int index = 0; index < 6; index++) {
            int one = index;
            tell(told, () -> x.suggestedAt(one));
        }
        for (int reader = -1; reader < 3; reader++) {
            int one = reader;
            tell(told, () -> x.documents(one));
        }
        for (int i = 0; i < 4; i++) {
            tell(told, () -> x.openReader());
        }
        tell(told, () -> x.setFilter(-1));
        for (int reader = 0; reader < 3; reader++) {
            int one = reader;
            tell(told, () -> x.documents(one));
            tell(told, () -> x.closeReader(one));
        }
    }

    private static void tellAliases(Quillroom x, StringBuilder told) {
        tell(told, () -> add(x, "car dog b c the", 0, -1));
        x.commit();
        tell(told, () -> x.stems());
        for (String word : new String[] {"auto", "hund", "tier", "beta", "gamma", "wagon", "b", "c", "d", "car"}) {
            tell(told, () -> text(x, word).frequency(-1));
        }
        for (int i = 1; i < 8; i++) {
            String alias = "m " + times("n", i);
            tell(told, () -> text(x, alias).addAlias());
        }
    }

    /** The call is refused on one of two objects that are made in one way, and both tell the same then. */
    private static void unchanged(Class<?> exception, Start start, Use call) {
        for (int side = 0; side < 5; side++) {
            Quillroom refused = start.make();
            dueThrow("the call", exception, refused, call);
            due("the side " + side, told(side, refused), told(side, start.make()));
        }
    }

    private static void type() {
        of(2, "Throws `IllegalArgumentException` if it is none that a text has", () -> {
            char[] others = {'`', '{', '/', ':', 'A', 'Z', '!', '#', '\'', '.', ';', '\\', '^', '_', '}', '|', 31, 33, 0, 127, 160,
                228, 255, 256, 353, 65535};
            for (char other : others) {
                dueThrow("type the sign " + (int) other, ARGUMENT, new Quillroom(), x -> x.type(other));
            }
            due("a", new Quillroom().type('a'), 1);
            due("z", new Quillroom().type('z'), 1);
            due("0", new Quillroom().type('0'), 1);
            due("9", new Quillroom().type('9'), 1);
        });
        of(2, "Throws `IllegalStateException` if there are 80 characters", () -> {
            Quillroom x = typed(times("b", 79));
            due("the 80th", x.type(','), 80);
            dueThrow("the 81st", STATE, x, y -> y.type(','));
            dueThrow("the 81st", STATE, x, y -> y.type('b'));
            x.erase();
            due("behind erase", x.type('b'), 1);
            text(x, times("b", 80)).add(0, -1);
            due("behind add", x.type('b'), 1);
        });
        ofTerms(2, NOTHING, () -> {
            unchanged(ARGUMENT, () -> rich("b"), x -> x.type('A'));
            unchanged(ARGUMENT, () -> rich(""), x -> x.type((char) 0));
            unchanged(STATE, () -> rich(times("b c ", 20)), x -> x.type('b'));
            unchanged(ARGUMENT, () -> rich(times("b c ", 20)), x -> x.type('A'));
        });
        ofTerms(2, FIRST, () -> dueThrow("a wrong 81st", ARGUMENT, typed(times("b", 80)), x -> x.type('B')));
    }

    private static void add() {
        of(4, "Throws `IllegalArgumentException` if the kind or the value is out of range", () -> {
            for (int far : FAR) {
                dueThrow("the kind " + far, ARGUMENT, new Quillroom(), x -> x.add(far, 0));
                dueThrow("the value " + far, ARGUMENT, new Quillroom(), x -> x.add(0, far));
            }
            dueThrow("the kind -1", ARGUMENT, new Quillroom(), x -> x.add(-1, -1));
            dueThrow("the kind 7", ARGUMENT, new Quillroom(), x -> x.add(7, 999));
            dueThrow("the value -2", ARGUMENT, new Quillroom(), x -> x.add(0, -2));
            dueThrow("the value 1000", ARGUMENT, new Quillroom(), x -> x.add(6, 1000));
            due("both least", new Quillroom().add(0, -1), 0);
            due("both greatest", new Quillroom().add(6, 999), 0);
        });
        of(4, "Throws `IllegalStateException` if 60 documents were added", () -> {
            Quillroom x = new Quillroom();
            for (int i = 0; i < 59; i++) {
                x.add(0, -1);
            }
            x.delete(3);
            due("the 60th", x.add(0, -1), 59);
            dueThrow("the 61st", STATE, x, y -> y.add(0, -1));
            x.delete(59);
            dueThrow("with deleted ones", STATE, x, y -> y.add(0, -1));
            x.crash();
            dueThrow("with lost ones", STATE, x, y -> y.add(0, -1));
            x.commit();
            dueThrow("behind a commit", STATE, x, y -> y.add(0, -1));
        });
        ofTerms(4, NOTHING, () -> {
            unchanged(ARGUMENT, () -> rich("b c"), x -> x.add(-1, 0));
            unchanged(ARGUMENT, () -> rich("b c"), x -> x.add(7, 0));
            unchanged(ARGUMENT, () -> rich("(b"), x -> x.add(0, -2));
            unchanged(ARGUMENT, () -> rich("b"), x -> x.add(0, 1000));
            unchanged(STATE, () -> full("bb"), x -> x.add(0, 0));
            unchanged(ARGUMENT, () -> full("b c"), x -> x.add(7, 0));
        });
        ofTerms(4, FIRST, () -> {
            dueThrow("a wrong kind of the 61st", ARGUMENT, full("b"), x -> x.add(7, 0));
            dueThrow("a wrong value of the 61st", ARGUMENT, full("b"), x -> x.add(0, 1000));
        });
    }

    private static void delete() {
        of(5, "Throws `NoSuchElementException` if there is no such document, or it is deleted, or was lost", () -> {
            Quillroom x = room("b", "b", "b", "b");
            for (int other : new int[] {-1, 4, 32, 59, 60, 61, 63, 64, 65, 128}) {
                dueThrow("delete " + other, ELEMENT, x, y -> y.delete(other));
            }
            for (int far : FAR) {
                dueThrow("delete " + far, ELEMENT, x, y -> y.delete(far));
            }
            dueThrow("delete of an empty engine", ELEMENT, new Quillroom(), y -> y.delete(0));
            x.delete(0);
            dueThrow("a deleted one ahead of the commit", ELEMENT, x, y -> y.delete(0));
            x.commit();
            dueThrow("a deleted one that is marked", ELEMENT, x, y -> y.delete(0));
            x.delete(1);
            x.crash();
            due("one of which the deletion was lost", x.delete(1), 1);
            added(x, "b").delete(4);
            dueThrow("a deleted one that waited", ELEMENT, x, y -> y.delete(4));
            added(x, "b").crash();
            dueThrow("a lost one", ELEMENT, x, y -> y.delete(5));
            dueThrow("a lost one that was deleted", ELEMENT, x, y -> y.delete(4));
            x.commit();
            dueThrow("a lost one behind a commit", ELEMENT, x, y -> y.delete(5));
            due("one that is there", x.delete(3), 1);
        });
        ofTerms(5, NOTHING, () -> {
            unchanged(ELEMENT, () -> rich("b"), x -> x.delete(-1));
            unchanged(ELEMENT, () -> rich("b"), x -> x.delete(64 + 3));
            unchanged(ELEMENT, () -> rich("b"), x -> x.delete(0));
            unchanged(ELEMENT, () -> rich("b"), x -> x.delete(1));
            unchanged(ELEMENT, () -> rich("b"), x -> x.delete(6));
        });
    }

    private static void addAlias() {
        of(6, "Throws `UnsupportedOperationException` if the text is not so, or one of both is a stop, or both have one stem", () -> {
            String[] others = {"", " ", "b", "b ", " c", "b  c", " b c", "b c ", "b c d", "b,c", "b1 c", "b 1", "(b c)", "b c*",
                times("b ", 40)};
            for (String other : others) {
                dueThrow("addAlias of " + other, SUPPORT, typed(other), x -> x.addAlias());
            }
            for (String stop : new String[] {"a", "of", "the", "to"}) {
                dueThrow("addAlias of " + stop + " first", SUPPORT, typed(stop + " b"), x -> x.addAlias());
                dueThrow("addAlias of " + stop + " second", SUPPORT, typed("b " + stop), x -> x.addAlias());
            }
            dueThrow("two stops", SUPPORT, typed("the of"), x -> x.addAlias());
            dueThrow("one word", SUPPORT, typed("b b"), x -> x.addAlias());
            dueThrow("one stem", SUPPORT, typed("jumping jumps"), x -> x.addAlias());
            dueThrow("one stem", SUPPORT, typed("jump jumped"), x -> x.addAlias());
            due("no stop", typed("thes b").addAlias(), 1);
            dueThrow("one stem", SUPPORT, typed("bus buss"), x -> x.addAlias());
            due("another stem", typed("buss bu").addAlias(), 1);
        });
        of(6, "Throws `IllegalStateException` if there are 6 aliases, or this one is there", () -> {
            Quillroom x = new Quillroom();
            for (int i = 1; i <= 5; i++) {
                due("addAlias", text(x, "cars " + times("b", i)).addAlias(), i);
            }
            dueThrow("this one", STATE, text(x, "cars b"), y -> y.addAlias());
            dueThrow("this one by its stems", STATE, text(x, "car bbbs"), y -> y.addAlias());
            due("the other way", text(x, "b car").addAlias(), 6);
            dueThrow("the 7th", STATE, text(x, "m n"), y -> y.addAlias());
            dueThrow("this one of 6", STATE, text(x, "b car"), y -> y.addAlias());
        });
        ofTerms(6, NOTHING, () -> {
            unchanged(SUPPORT, () -> rich("dog"), x -> x.addAlias());
            unchanged(SUPPORT, () -> rich("b the"), x -> x.addAlias());
            unchanged(SUPPORT, () -> rich("dog dogs"), x -> x.addAlias());
            unchanged(STATE, () -> rich("cars auto"), x -> x.addAlias());
            unchanged(STATE, () -> sixAliases("d car"), x -> x.addAlias());
            unchanged(STATE, () -> sixAliases("dog tier"), x -> x.addAlias());
        });
        ofTerms(6, FIRST, () -> {
            dueThrow("no words, with 6", SUPPORT, sixAliases(""), x -> x.addAlias());
            dueThrow("a stop, with 6", SUPPORT, sixAliases("the dog"), x -> x.addAlias());
            dueThrow("one stem, with 6", SUPPORT, sixAliases("dog dogs"), x -> x.addAlias());
        });
    }

    /** Segments 0 and 1, the second one with all but its last document marked. */
    private static Quillroom twoSegments() {
        Quillroom x = segments(new Quillroom(), 2, 3);
        x.delete(2);
        x.delete(3);
        x.commit();
        return x;
    }

    private static void dueNoSegment(Use atOne, Use atTwo, Use below) {
        dueThrow("the segment 0 of none", INDEX, new Quillroom(), x -> atOne.on(x));
        dueThrow("the segment 2 of two", INDEX, twoSegments(), x -> atTwo.on(x));
        dueThrow("the segment -1", INDEX, twoSegments(), x -> below.on(x));
        Quillroom waits = added(new Quillroom(), "b");
        dueThrow("ahead of the commit", INDEX, waits, x -> atOne.on(x));
        waits.commit();
        waits.delete(0);
        waits.commit();
        dueThrow("of one that is gone", INDEX, waits, x -> atOne.on(x));
    }

    private static void sizeAndLive() {
        of(12, "Throws `IndexOutOfBoundsException` if there is no such segment", () -> {
            dueNoSegment(x -> x.sizeOf(0), x -> x.sizeOf(2), x -> x.sizeOf(-1));
            for (int far : FAR) {
                dueThrow("sizeOf " + far, INDEX, twoSegments(), x -> x.sizeOf(far));
            }
            due("the last one", twoSegments().sizeOf(1), 3);
        });
        ofTerms(12, NOTHING, () -> unchanged(INDEX, () -> rich("b"), x -> x.sizeOf(x.segments())));
        of(13, "Throws `IndexOutOfBoundsException` if there is no such segment", () -> {
            dueNoSegment(x -> x.liveIn(0), x -> x.liveIn(2), x -> x.liveIn(-1));
            for (int far : FAR) {
                dueThrow("liveIn " + far, INDEX, twoSegments(), x -> x.liveIn(far));
            }
            due("the last one", twoSegments().liveIn(1), 1);
        });
        ofTerms(13, NOTHING, () -> unchanged(INDEX, () -> rich("b"), x -> x.liveIn(-1)));
    }

    private static void documentAt() {
        of(14, "Throws `IndexOutOfBoundsException` if there is no such segment or place", () -> {
            dueNoSegment(x -> x.documentAt(0, 0), x -> x.documentAt(2, 0), x -> x.documentAt(-1, 0));
            for (int far : FAR) {
                dueThrow("documentAt " + far, INDEX, twoSegments(), x -> x.documentAt(far, 0));
                dueThrow("documentAt 0, " + far, INDEX, twoSegments(), x -> x.documentAt(0, far));
            }
            dueThrow("the place -1", INDEX, twoSegments(), x -> x.documentAt(1, -1));
            dueThrow("the place 3 of three", INDEX, twoSegments(), x -> x.documentAt(1, 3));
            dueThrow("the place 2 of two", INDEX, twoSegments(), x -> x.documentAt(0, 2));
            dueThrow("no place and no segment", INDEX, twoSegments(), x -> x.documentAt(2, -1));
            due("the last place", twoSegments().documentAt(1, 2), 4);
        });
        ofTerms(14, NOTHING, () -> {
            unchanged(INDEX, () -> rich("b"), x -> x.documentAt(-1, 0));
            unchanged(INDEX, () -> rich("b"), x -> x.documentAt(0, 3));
        });
    }

    private static void openReader() {
        of(16, "Throws `IllegalStateException` if there are 3 readers", () -> {
            Quillroom x = new Quillroom();
            for (int reader = 0; reader < 3; reader++) {
                due("openReader", x.openReader(), reader);
            }
            dueThrow("the 4th", STATE, x, y -> y.openReader());
            dueThrow("the 4th again", STATE, x, y -> y.openReader());
            x.closeReader(1);
            due("one that is free", x.openReader(), 1);
            dueThrow("the 4th", STATE, x, y -> y.openReader());
            x.crash();
            due("all are free", x.openReader(), 0);
        });
        ofTerms(16, NOTHING, () -> unchanged(STATE, RefusalsTest::threeReaders, x -> x.openReader()));
    }

    private static void closeReader() {
        of(17, "Throws `NoSuchElementException` if there is no such reader", () -> {
            Quillroom x = new Quillroom();
            dueThrow("the reader 0 of none", ELEMENT, x, y -> y.closeReader(0));
            x.openReader();
            dueThrow("the last commit", ELEMENT, x, y -> y.closeReader(-1));
            dueThrow("the reader 1 of one", ELEMENT, x, y -> y.closeReader(1));
            for (int far : FAR) {
                dueThrow("the reader " + far, ELEMENT, x, y -> y.closeReader(far));
            }
            dueThrow("the reader 3 of three", ELEMENT, threeReaders(), y -> y.closeReader(3));
            due("the last one of three", threeReaders().closeReader(2), 2);
            x.closeReader(0);
            dueThrow("a closed one", ELEMENT, x, y -> y.closeReader(0));
            x.openReader();
            x.crash();
            dueThrow("one that a crash closed", ELEMENT, x, y -> y.closeReader(0));
        });
        ofTerms(17, NOTHING, () -> {
            unchanged(ELEMENT, () -> rich("b"), x -> x.closeReader(-1));
            unchanged(ELEMENT, () -> rich("b"), x -> x.closeReader(1));
            unchanged(ELEMENT, RefusalsTest::threeReaders, x -> x.closeReader(3));
        });
    }

    private static void documents() {
        of(18, "Throws `NoSuchElementException` if there is no such reader", () -> {
            Quillroom x = new Quillroom();
            due("the last commit", x.documents(-1), 0);
            dueThrow("the reader 0 of none", ELEMENT, x, y -> y.documents(0));
            x.openReader();
            due("the reader 0", x.documents(0), 0);
            dueThrow("the reader -2", ELEMENT, x, y -> y.documents(-2));
            dueThrow("the reader 1 of one", ELEMENT, x, y -> y.documents(1));
            for (int far : FAR) {
                dueThrow("the reader " + far, ELEMENT, x, y -> y.documents(far));
            }
            dueThrow("the reader 3 of three", ELEMENT, threeReaders(), y -> y.documents(3));
            x.closeReader(0);
            dueThrow("a closed one", ELEMENT, x, y -> y.documents(0));
        });
        ofTerms(18, NOTHING, () -> unchanged(ELEMENT, () -> rich("b"), x -> x.documents(2)));
    }

    private static void fault() {
        of(19, "Throws `NoSuchElementException` if it is a question", () -> {
            dueThrow("a question", ELEMENT, typed("b"), x -> x.fault());
            dueThrow("a question of 80 characters", ELEMENT, typed(times("b ", 40)), x -> x.fault());
            due("no question", typed("b (").fault(), 3);
            due("the empty text", typed("").fault(), 0);
        });
        ofTerms(19, NOTHING, () -> {
            unchanged(ELEMENT, () -> rich("d (+b c*)"), x -> x.fault());
            unchanged(ELEMENT, () -> rich("b"), x -> x.fault());
        });
    }

    private static void ask() {
        of(20, "Throws `NoSuchElementException` if there is no such reader", () -> {
            Quillroom x = typed("b");
            dueThrow("the reader 0 of none", ELEMENT, x, y -> y.ask(0, 's'));
            dueThrow("the reader -2", ELEMENT, x, y -> y.ask(-2, 's'));
            x.openReader();
            dueThrow("the reader 1 of one", ELEMENT, x, y -> y.ask(1, 's'));
            for (int far : FAR) {
                dueThrow("the reader " + far, ELEMENT, x, y -> y.ask(far, 's'));
            }
            dueThrow("the reader 3 of three", ELEMENT, threeReaders(), y -> y.ask(3, 's'));
            due("the reader 0", x.ask(0, 's'), 0);
            x.closeReader(0);
            dueThrow("a closed one", ELEMENT, x, y -> y.ask(0, 's'));
            due("the last commit", x.ask(-1, 's'), 0);
        });
        of(20, "Throws `IllegalArgumentException` if there is no such order", () -> {
            char[] others = {'r', 't', 'v', 'c', 'e', 'S', 'U', 'D', ' ', 0, 255, 's' + 256, 65535};
            for (char other : others) {
                dueThrow("the order " + (int) other, ARGUMENT, typed("b"), x -> x.ask(-1, other));
            }
            for (char order : new char[] {'s', 'u', 'd'}) {
                due("the order " + order, typed("b").ask(-1, order), 0);
            }
        });
        of(20, "Throws `UnsupportedOperationException` if the text is no question", () -> {
            for (String other : new String[] {"", " ", "(", "b)", "1", "+", times("b", 79) + "("}) {
                dueThrow("ask " + other, SUPPORT, typed(other), x -> x.ask(-1, 's'));
            }
            due("a question", typed(times("b", 79) + " ").ask(-1, 's'), 0);
        });
        ofTerms(20, NOTHING, () -> {
            unchanged(ELEMENT, () -> rich("b"), x -> x.ask(1, 's'));
            unchanged(ARGUMENT, () -> rich("c d"), x -> x.ask(0, 'x'));
            unchanged(SUPPORT, () -> rich("c d ("), x -> x.ask(-1, 's'));
            unchanged(SUPPORT, () -> rich(""), x -> x.ask(0, 'u'));
            unchanged(SUPPORT, () -> new Quillroom(), x -> x.ask(-1, 'u'));
        });
        ofTerms(20, FIRST, () -> {
            dueThrow("no reader and no order", ELEMENT, rich("b"), x -> x.ask(1, 'x'));
            dueThrow("no reader and no question", ELEMENT, rich("("), x -> x.ask(-2, 's'));
            dueThrow("none of the three", ELEMENT, rich("("), x -> x.ask(3, 'x'));
            dueThrow("no order and no question", ARGUMENT, rich("("), x -> x.ask(0, 'x'));
        });
    }

    /** An answer of the documents 0 and 1, of which the second one has neither a value nor words. */
    private static Quillroom answered() {
        Quillroom x = new Quillroom();
        add(x, "b", 0, 0);
        add(x, "12", 0, -1);
        x.commit();
        text(x, "car auto").addAlias();
        ask(x, "b");
        return x;
    }

    private static Quillroom emptyAnswer() {
        Quillroom x = rich("");
        ask(x, "zzz");
        return x;
    }

    private static void dueNoRank(Use first, Use second, Use below) {
        dueThrow("no answer", INDEX, room("b"), x -> first.on(x));
        dueThrow("an empty answer", INDEX, emptyAnswer(), x -> first.on(x));
        dueThrow("the rank 1 of one", INDEX, answered(), x -> second.on(x));
        dueThrow("the rank -1", INDEX, answered(), x -> below.on(x));
        dueThrow("the rank -1 without an answer", INDEX, new Quillroom(), x -> below.on(x));
    }

    private static void hit() {
        of(21, "Throws `IndexOutOfBoundsException` if there is no answer, or it has no such rank", () -> {
            dueNoRank(x -> x.hit(0), x -> x.hit(1), x -> x.hit(-1));
            for (int far : FAR) {
                dueThrow("the rank " + far, INDEX, answered(), x -> x.hit(far));
            }
            due("the rank 0", answered().hit(0), 0);
        });
        ofTerms(21, NOTHING, () -> {
            unchanged(INDEX, () -> rich("b"), x -> x.hit(3));
            unchanged(INDEX, () -> new Quillroom(), x -> x.hit(0));
        });
    }

    private static void scoreBits() {
        of(22, "Throws `IndexOutOfBoundsException` if there is no answer, or it has no such rank", () -> {
            dueNoRank(x -> x.scoreBits(0), x -> x.scoreBits(1), x -> x.scoreBits(-1));
            for (int far : FAR) {
                dueThrow("the rank " + far, INDEX, answered(), x -> x.scoreBits(far));
            }
            due("the rank 0", answered().scoreBits(0) > 0 ? 1 : 0, 1);
        });
        ofTerms(22, NOTHING, () -> unchanged(INDEX, () -> rich("b"), x -> x.scoreBits(3)));
    }

    /** An answer of one document without a value, which has words when told so. */
    private static Quillroom withoutValue(String words) {
        Quillroom x = new Quillroom();
        add(x, "b " + words, 0, -1);
        x.commit();
        ask(x, "b");
        return x;
    }

    private static void valueOf() {
        of(23, "Throws `IndexOutOfBoundsException` if there is no answer, or it has no such rank", () -> {
            dueNoRank(x -> x.valueOf(0), x -> x.valueOf(1), x -> x.valueOf(-1));
            for (int far : FAR) {
                dueThrow("the rank " + far, INDEX, answered(), x -> x.valueOf(far));
            }
            due("the rank 0", answered().valueOf(0), 0);
        });
        of(23, "Throws `NoSuchElementException` if it has none", () -> {
            dueThrow("no value", ELEMENT, withoutValue(""), x -> x.valueOf(0));
            due("the value 0", answered().valueOf(0), 0);
        });
        ofTerms(23, NOTHING, () -> {
            unchanged(INDEX, () -> rich("b"), x -> x.valueOf(-1));
            unchanged(ELEMENT, () -> withoutValue("c"), x -> x.valueOf(0));
        });
        ofTerms(23, FIRST, () -> dueThrow("no rank and no value", INDEX, withoutValue(""), x -> x.valueOf(1)));
    }

    private static void page() {
        of(24, "Throws `IllegalArgumentException` if the number is out of range", () -> {
            for (int other : new int[] {0, -1, 21, 22}) {
                dueThrow("page " + other, ARGUMENT, answered(), x -> x.page(other));
            }
            for (int far : FAR) {
                dueThrow("page " + far, ARGUMENT, answered(), x -> x.page(far));
            }
            due("page 1", answered().page(1), 1);
            due("page 20", answered().page(20), 1);
        });
        of(24, "Throws `IllegalStateException` if there is no answer", () -> {
            dueThrow("no answer", STATE, room("b"), x -> x.page(1));
            dueThrow("no answer", STATE, room("b"), x -> x.page(20));
            Quillroom refused = typed("(");
            dueThrow("ask", SUPPORT, refused, x -> x.ask(-1, 's'));
            dueThrow("no answer as it was refused", STATE, refused, x -> x.page(1));
            due("an empty answer", emptyAnswer().page(1), 0);
        });
        ofTerms(24, NOTHING, () -> {
            unchanged(ARGUMENT, () -> rich("b"), x -> x.page(0));
            unchanged(ARGUMENT, () -> rich("b"), x -> x.page(21));
            unchanged(STATE, () -> room("b"), x -> x.page(2));
        });
        ofTerms(24, FIRST, () -> {
            dueThrow("page 0 without an answer", ARGUMENT, new Quillroom(), x -> x.page(0));
            dueThrow("page 21 without an answer", ARGUMENT, new Quillroom(), x -> x.page(21));
        });
    }

    private static void pageAt() {
        of(25, "Throws `IllegalStateException` if there is no answer", () -> {
            dueThrow("no answer", STATE, new Quillroom(), x -> x.pageAt());
            dueThrow("no answer", STATE, room("b"), x -> x.pageAt());
            due("an empty answer", emptyAnswer().pageAt(), 0);
            due("an answer", answered().pageAt(), 0);
        });
        ofTerms(25, NOTHING, () -> unchanged(STATE, () -> room("b", "c b"), x -> x.pageAt()));
    }

    private static void setFilter() {
        of(26, "Throws `IllegalArgumentException` if there is no such kind", () -> {
            dueThrow("the kind -2", ARGUMENT, new Quillroom(), x -> x.setFilter(-2));
            dueThrow("the kind 7", ARGUMENT, new Quillroom(), x -> x.setFilter(7));
            for (int far : FAR) {
                dueThrow("the kind " + far, ARGUMENT, new Quillroom(), x -> x.setFilter(far));
            }
            due("none", new Quillroom().setFilter(-1), -1);
            due("the kind 6", new Quillroom().setFilter(6), -1);
        });
        ofTerms(26, NOTHING, () -> {
            unchanged(ARGUMENT, () -> rich("b"), x -> x.setFilter(-2));
            unchanged(ARGUMENT, () -> rich("b"), x -> x.setFilter(7));
        });
    }

    private static void facet() {
        of(27, "Throws `IllegalArgumentException` if there is no such kind", () -> {
            dueThrow("the kind -1", ARGUMENT, answered(), x -> x.facet(-1));
            dueThrow("the kind 7", ARGUMENT, answered(), x -> x.facet(7));
            for (int far : FAR) {
                dueThrow("the kind " + far, ARGUMENT, answered(), x -> x.facet(far));
            }
            due("the kind 0", answered().facet(0), 1);
            due("the kind 6", answered().facet(6), 0);
        });
        of(27, "Throws `IllegalStateException` if there is no answer", () -> {
            dueThrow("no answer", STATE, room("b"), x -> x.facet(0));
            dueThrow("no answer", STATE, new Quillroom(), x -> x.facet(6));
            due("an empty answer", emptyAnswer().facet(0), 0);
        });
        ofTerms(27, NOTHING, () -> {
            unchanged(ARGUMENT, () -> rich("b"), x -> x.facet(7));
            unchanged(STATE, () -> room("b"), x -> x.facet(0));
        });
        ofTerms(27, FIRST, () -> {
            dueThrow("the kind -1 without an answer", ARGUMENT, new Quillroom(), x -> x.facet(-1));
            dueThrow("the kind 7 without an answer", ARGUMENT, new Quillroom(), x -> x.facet(7));
        });
    }

    /** An answer of one document, the text of which is told, and which has the value 5. */
    private static Quillroom valued(String text) {
        Quillroom x = new Quillroom();
        add(x, text, 0, 5);
        x.commit();
        ask(x, "[5,5]");
        return x;
    }

    private static void passage() {
        of(28, "Throws `IndexOutOfBoundsException` if there is no answer, or it has no such rank", () -> {
            dueNoRank(x -> x.passage(0), x -> x.passage(1), x -> x.passage(-1));
            for (int far : FAR) {
                dueThrow("the rank " + far, INDEX, answered(), x -> x.passage(far));
            }
            due("the rank 0", answered().passage(0), 0);
        });
        of(28, "Throws `UnsupportedOperationException` if the document has no words", () -> {
            dueThrow("the empty text", SUPPORT, valued(""), x -> x.passage(0));
            dueThrow("signs alone", SUPPORT, valued(" 12 [*,\""), x -> x.passage(0));
            due("a stop alone", valued("the").passage(0), 0);
            due("one letter", valued("1b2").passage(0), 0);
        });
        ofTerms(28, NOTHING, () -> {
            unchanged(INDEX, () -> rich("b"), x -> x.passage(3));
            unchanged(SUPPORT, () -> rich("b"), x -> x.passage(2));
        });
        ofTerms(28, FIRST, () -> dueThrow("no rank and no words", INDEX, valued(""), x -> x.passage(1)));
    }

    private static void passageStems() {
        of(29, "Throws `IndexOutOfBoundsException` if there is no answer, or it has no such rank", () -> {
            dueNoRank(x -> x.passageStems(0), x -> x.passageStems(1), x -> x.passageStems(-1));
            for (int far : FAR) {
                dueThrow("the rank " + far, INDEX, answered(), x -> x.passageStems(far));
            }
            due("the rank 0", answered().passageStems(0), 1);
        });
        of(29, "Throws `UnsupportedOperationException` if the document has no words", () -> {
            dueThrow("the empty text", SUPPORT, valued(""), x -> x.passageStems(0));
            dueThrow("signs alone", SUPPORT, valued(" 12 [*,\""), x -> x.passageStems(0));
            due("a stop alone", valued("the").passageStems(0), 0);
            due("one letter", valued("1b2").passageStems(0), 0);
        });
        ofTerms(29, NOTHING, () -> {
            unchanged(INDEX, () -> rich("b"), x -> x.passageStems(3));
            unchanged(SUPPORT, () -> rich("b"), x -> x.passageStems(2));
        });
        ofTerms(29, FIRST, () -> dueThrow("no rank and no words", INDEX, valued(""), x -> x.passageStems(1)));
    }

    private static void suggest() {
        of(30, "Throws `UnsupportedOperationException` if the text is not one word", () -> {
            for (String other : NO_WORDS) {
                dueThrow("suggest for " + other, SUPPORT, text(room("b"), other), x -> x.suggest());
            }
            due("one letter", text(room("b"), "c").suggest(), 1);
            due("80 letters", text(room(times("b", 80)), times("b", 80)).suggest(), 80);
        });
        of(30, "Throws `NoSuchElementException` if there is none", () -> {
            dueThrow("of no document", ELEMENT, typed("b"), x -> x.suggest());
            dueThrow("of one that waits", ELEMENT, text(added(new Quillroom(), "b"), "b"), x -> x.suggest());
            dueThrow("the distance 3", ELEMENT, text(room("bcde"), "b"), x -> x.suggest());
            due("the distance 2", text(room("bcd"), "b").suggest(), 3);
            Quillroom x = room("b");
            x.delete(0);
            x.commit();
            dueThrow("of one that is deleted", ELEMENT, text(x, "b"), y -> y.suggest());
        });
        ofTerms(30, NOTHING, () -> {
            unchanged(SUPPORT, () -> rich("b c"), x -> x.suggest());
            unchanged(SUPPORT, () -> rich(""), x -> x.suggest());
            unchanged(ELEMENT, () -> rich("bcdef"), x -> x.suggest());
            unchanged(ELEMENT, () -> typed("b"), x -> x.suggest());
        });
        ofTerms(30, FIRST, () -> {
            dueThrow("no word and no stem", SUPPORT, new Quillroom(), x -> x.suggest());
            dueThrow("two words and no stem", SUPPORT, typed("b c"), x -> x.suggest());
        });
    }

    private static void suggestedAt() {
        of(31, "Throws `IndexOutOfBoundsException` if none was suggested, or there is no such character", () -> {
            dueThrow("none", INDEX, new Quillroom(), x -> x.suggestedAt(0));
            Quillroom x = room("bcd");
            text(x, "zzzzzz");
            dueThrow("suggest", ELEMENT, x, y -> y.suggest());
            dueThrow("none, as it was refused", INDEX, x, y -> y.suggestedAt(0));
            text(x, "bcdx").suggest();
            due("the first one", x.suggestedAt(0), 'b');
            due("the last one", x.suggestedAt(2), 'd');
            dueThrow("the index 3 of three", INDEX, x, y -> y.suggestedAt(3));
            dueThrow("the index -1", INDEX, x, y -> y.suggestedAt(-1));
            for (int far : FAR) {
                dueThrow("the index " + far, INDEX, x, y -> y.suggestedAt(far));
            }
        });
        ofTerms(31, NOTHING, () -> {
            unchanged(INDEX, () -> rich("b"), x -> x.suggestedAt(2));
            unchanged(INDEX, () -> room("b"), x -> x.suggestedAt(0));
        });
    }

    private static void frequency() {
        of(32, "Throws `NoSuchElementException` if there is no such reader", () -> {
            Quillroom x = typed("b");
            dueThrow("the reader 0 of none", ELEMENT, x, y -> y.frequency(0));
            dueThrow("the reader -2", ELEMENT, x, y -> y.frequency(-2));
            x.openReader();
            due("the reader 0", x.frequency(0), 0);
            dueThrow("the reader 1 of one", ELEMENT, x, y -> y.frequency(1));
            for (int far : FAR) {
                dueThrow("the reader " + far, ELEMENT, x, y -> y.frequency(far));
            }
            dueThrow("the reader 3 of three", ELEMENT, threeReaders(), y -> y.frequency(3));
            x.closeReader(0);
            dueThrow("a closed one", ELEMENT, x, y -> y.frequency(0));
            due("the last commit", x.frequency(-1), 0);
        });
        of(32, "Throws `UnsupportedOperationException` if the text is not one word", () -> {
            for (String other : NO_WORDS) {
                dueThrow("frequency of " + other, SUPPORT, text(room("b"), other), x -> x.frequency(-1));
            }
            due("one letter", text(room("b"), "b").frequency(-1), 1);
            due("80 letters", text(room("b"), times("b", 80)).frequency(-1), 0);
        });
        ofTerms(32, NOTHING, () -> {
            unchanged(ELEMENT, () -> rich("b"), x -> x.frequency(1));
            unchanged(SUPPORT, () -> rich("b c"), x -> x.frequency(0));
        });
        ofTerms(32, FIRST, () -> {
            dueThrow("no reader and no word", ELEMENT, new Quillroom(), x -> x.frequency(0));
            dueThrow("no reader and two words", ELEMENT, rich("b c"), x -> x.frequency(-2));
        });
    }

    private static void dueNone(Use call) {
        dueThrow("an empty engine", ARITHMETIC, new Quillroom(), x -> call.on(x));
        Quillroom x = added(new Quillroom(), "b");
        dueThrow("ahead of the commit", ARITHMETIC, x, y -> call.on(y));
        x.commit();
        due("behind it", thrownBy(x, call) == null ? 1 : 0, 1);
        x.delete(0);
        due("ahead of the next commit", thrownBy(x, call) == null ? 1 : 0, 1);
        x.commit();
        dueThrow("when all are gone", ARITHMETIC, x, y -> call.on(y));
    }

    private static void shares() {
        of(35, "Throws `ArithmeticException` if there are none", () -> dueNone(x -> x.markedShare()));
        ofTerms(35, NOTHING, () -> unchanged(ARITHMETIC, () -> added(new Quillroom(), "b"), x -> x.markedShare()));
        of(36, "Throws `ArithmeticException` if there are none", () -> dueNone(x -> x.meanSize()));
        ofTerms(36, NOTHING, () -> unchanged(ARITHMETIC, () -> added(new Quillroom(), "b"), x -> x.meanSize()));
    }
}
