import java.util.NoSuchElementException;

/** A case for each sentence of the document's terms that names a boundary. */
public final class TermBoundariesTest extends Check {
    private static final String SIGNS = "abcdefghijklmnopqrstuvwxyz0123456789 \"*~+-[],()";
    private static final String PARTING = "0123456789 \"*~+-[],()";

    public static void main(String[] args) {
        calls();
        texts();
        stems();
        stops();
        documents();
        places();
        aliases();
        kinds();
        newSegments();
        merges();
        tiers();
        log();
        readers();
        questions();
        wordsOfQuestions();
        phrasesOfQuestions();
        rangesAndBrackets();
        faults();
        wordsHold();
        beginningsHold();
        nearWordsHold();
        phrasesHold();
        rangesHold();
        questionsHold();
        weights();
        lengths();
        clauses();
        sums();
        answers();
        end();
    }

    private static void calls() {
        of(TERMS, "An object is used for at most 512 calls after it has been made", () -> {
            Quillroom x = new Quillroom();
            for (int i = 0; i < 60; i++) {
                due("add", x.add(0, i), i);
            }
            due("the call 61", x.commit(), 1);
            for (int i = 0; i < 222; i++) {
                due("type", x.type('b'), 1);
                due("erase", x.erase(), 1);
            }
            for (char sign : "[9,59]".toCharArray()) {
                x.type(sign);
            }
            due("the call 512", x.ask(-1, 'd'), 51);
        });
    }

    private static void texts() {
        of(TERMS, "A text has at most 80 characters", () -> {
            for (String sign : new String[] {"a", " ", "("}) {
                Quillroom x = typed(times(sign, 79));
                due("the 80th", x.type(sign.charAt(0)), 80);
                dueThrow("the 81st", IllegalStateException.class, x, y -> y.type(sign.charAt(0)));
                due("erase", x.erase(), 80);
            }
        });
        of(TERMS, "small letters, digits, blanks and the signs \" * ~ + - [ ] , ( and )", () -> {
            Quillroom x = new Quillroom();
            for (int i = 0; i < SIGNS.length(); i++) {
                due("type " + SIGNS.charAt(i), x.type(SIGNS.charAt(i)), i + 1);
            }
            for (int i = 0; i < 65536; i++) {
                char other = (char) i;
                if (SIGNS.indexOf(other) < 0) {
                    // An object is used for 512 calls at most.
                    x = i % 256 == 0 ? new Quillroom() : x;
                    dueThrow("type the sign " + i, IllegalArgumentException.class, x, y -> y.type(other));
                }
            }
        });
        of(TERMS, "A word is a longest row of small letters.", () -> {
            due("a word of all 80 signs", room(times("b", 80)).lengths(), 1);
            due("a word of all 80 signs", suggested(room(times("z", 80)), times("z", 80)), times("z", 80));
            due("no letter", room("12 \"*~+-[],()").lengths(), 0);
            due("a word between signs", room("1b1").lengths(), 1);
            for (int i = 0; i < PARTING.length(); i++) {
                Quillroom x = room("bc" + PARTING.charAt(i) + "de");
                due("words around " + PARTING.charAt(i), x.lengths(), 2);
                due("the word behind " + PARTING.charAt(i), text(x, "de").frequency(-1), 1);
            }
        });
    }

    private static void dueStem(String word, String stem) {
        due("stem of " + word, suggested(room(word), word), stem);
    }

    private static void stems() {
        of(TERMS, "if it has 6 letters or more and ends with \"ing\", it is without these", () -> {
            dueStem("seeing", "see");
            dueStem("being", "being");
            dueStem("sing", "sing");
            dueStem("ing", "ing");
            dueStem("ringing", "ring");
            dueStem("inging", "ing");
            dueStem("exceeding", "exceed");
            dueStem("ingots", "ingot");
            dueStem(times("b", 77) + "ing", times("b", 77));
        });
        of(TERMS, "otherwise, if it has 5 or more and ends with \"ed\", without these", () -> {
            dueStem("added", "add");
            dueStem("shed", "shed");
            dueStem("fed", "fed");
            dueStem("ed", "ed");
            dueStem("winged", "wing");
            dueStem("seeding", "seed");
            dueStem("ended", "end");
        });
        of(TERMS, "otherwise, if it has 4 or more and ends with \"s\", without it", () -> {
            dueStem("cats", "cat");
            dueStem("bus", "bus");
            dueStem("us", "us");
            dueStem("s", "s");
            dueStem("pass", "pas");
            dueStem("endings", "ending");
            dueStem("breeds", "breed");
            dueStem("passed", "pass");
        });
        of(TERMS, "otherwise the word", () -> {
            dueStem("b", "b");
            dueStem("edit", "edit");
            dueStem("singe", "singe");
            dueStem("so", "so");
            dueStem("bings", "bing");
        });
    }

    private static void stops() {
        of(TERMS, "The words \"a\", \"of\", \"the\" and \"to\" are stops.", () -> {
            for (String stop : new String[] {"a", "of", "the", "to"}) {
                due("lengths of " + stop, room(stop).lengths(), 0);
                due("stems of " + stop, room(stop).stems(), 0);
            }
            String[] others = {"b", "aa", "an", "as", "o", "off", "ofs", "on", "f", "t", "th", "thee", "thes", "them", "he",
                "too", "tos", "so", "ta", "ton"};
            for (String other : others) {
                due("lengths of " + other, room(other).lengths(), 1);
                due("stems of " + other, room(other).stems(), 1);
            }
        });
    }

    private static void documents() {
        of(TERMS, "A document has a text, a kind from 0 to 6", () -> {
            for (int kind = 0; kind <= 6; kind++) {
                Quillroom x = new Quillroom();
                due("add of the kind " + kind, add(x, "b", kind, -1), 0);
                x.commit();
                ask(x, "b");
                due("facet " + kind, x.facet(kind), 1);
            }
            for (int kind : new int[] {-1, 7}) {
                dueThrow("add of the kind " + kind, IllegalArgumentException.class, typed("b"), x -> x.add(kind, -1));
            }
        });
        of(TERMS, "perhaps a value from 0 to 999", () -> {
            for (int value : new int[] {0, 1, 998, 999}) {
                Quillroom x = new Quillroom();
                add(x, "b", 0, value);
                x.commit();
                ask(x, "b");
                due("valueOf", x.valueOf(0), value);
            }
            Quillroom none = room("b");
            ask(none, "b");
            dueThrow("valueOf without a value", NoSuchElementException.class, none, x -> x.valueOf(0));
            for (int value : new int[] {-2, 1000}) {
                dueThrow("add of the value " + value, IllegalArgumentException.class, typed("b"), x -> x.add(0, value));
            }
        });
        of(TERMS, "Documents are numbered from 0 in the order in which they are added, at most 60", () -> {
            Quillroom x = new Quillroom();
            for (int i = 0; i < 60; i++) {
                due("add", x.add(0, -1), i);
            }
            dueThrow("add the 61st", IllegalStateException.class, x, y -> y.add(0, -1));
            x.commit();
            due("documents", x.documents(-1), 60);
            due("the first number", x.documentAt(0, 0), 0);
            due("the last number", x.documentAt(0, 59), 59);
        });
        of(TERMS, "no number is given again", () -> {
            Quillroom x = new Quillroom();
            for (int i = 0; i < 59; i++) {
                due("add", x.add(0, -1), i);
                if (i % 3 == 0) {
                    x.delete(i);
                } else if (i % 3 == 1) {
                    x.crash();
                } else {
                    x.commit();
                }
            }
            due("the 60th", x.add(0, -1), 59);
            due("crash", x.crash(), 1);
            dueThrow("add the 61st", IllegalStateException.class, x, y -> y.add(0, -1));
        });
    }

    private static void places() {
        of(TERMS, "The words of its text have the places 0, 1 and so on; all else parts words.", () -> {
            Quillroom x = room("p" + times(" x", 38) + " q", "b 12,*c");
            ask(x, "p");
            due("passage of the first place", x.passage(0), 0);
            ask(x, "q");
            due("passage of the place 39", x.passage(0), 35);
            dueHits(x, "\"b c\"", "1 ");
        });
        of(TERMS, "at that of a stop is nothing", () -> {
            Quillroom x = room("b the c", "the", "a b");
            due("stems", x.stems(), 2);
            due("frequency of a stop", text(x, "the").frequency(-1), 0);
            dueHits(x, "\"b c\"", "");
            dueHits(x, "\"b c\"~1", "0 ");
            dueHits(x, "\"b of c\"", "0 ");
            dueHits(x, "the", "");
        });
        of(TERMS, "beside it the aliases of this stem", () -> {
            Quillroom x = new Quillroom();
            text(x, "car auto").addAlias();
            text(x, "car wagon").addAlias();
            text(x, "wagon cart").addAlias();
            added(x, "red cars", "auto", "the wagon").commit();
            dueHits(x, "\"red auto\"", "0 ");
            dueHits(x, "\"red wagon\"", "0 ");
            dueHits(x, "cart", "2 ");
            dueHits(x, "car", "0 ");
            dueHits(x, "\"car auto\"~9", "");
            due("frequency of an alias of an alias", text(x, "cart").frequency(-1), 1);
            due("lengths", x.lengths(), 4);
            due("stems", x.stems(), 5);
        });
        of(TERMS, "The length of a document is the number of its words that are no stops.", () -> {
            due("no words", room("").lengths(), 0);
            due("stops alone", room("a of the to").lengths(), 0);
            due("the same word again", room("b b the b").lengths(), 3);
            due("40 words", room(times("b ", 40)).lengths(), 40);
        });
    }

    private static void aliases() {
        of(TERMS, "At most 6 aliases are kept, each of a stem for another one.", () -> {
            Quillroom x = new Quillroom();
            for (int i = 0; i < 6; i++) {
                text(x, "cars " + times("b", i + 1));
                due("addAlias", x.addAlias(), i + 1);
            }
            text(x, "cars dog");
            dueThrow("the 7th", IllegalStateException.class, x, y -> y.addAlias());
            added(x, "a car").commit();
            due("all 6 stand beside it", x.stems(), 7);
            due("the 7th does not", text(x, "dog").frequency(-1), 0);
            dueThrow("of a stem for itself", UnsupportedOperationException.class, typed("cars car"), y -> y.addAlias());
        });
        of(TERMS, "They are of a document as they are when it is added.", () -> {
            Quillroom x = added(new Quillroom(), "car");
            text(x, "car auto").addAlias();
            added(x, "the car");
            text(x, "car wagon").addAlias();
            x.commit();
            dueHits(x, "auto", "1 ");
            dueHits(x, "wagon", "");
            added(x, "car").commit();
            added(x, "b").commit();
            due("merges", x.merges(), 1);
            dueHits(x, "auto", "1 2 ");
            dueHits(x, "wagon", "2 ");
            Quillroom y = room("car auto");
            text(y, "car auto").addAlias();
            dueScore(y, "auto", 0, score(1.0f, 1, 2, 2.0f));
            dueHits(y, "\"auto auto\"", "");
            due("merges of none", added(y, "car auto").commit(), 2);
            dueScore(y, "auto", 0, score(1.0f, 2, 2, 2.0f));
            due("the hit", y.hit(0), 1);
            dueHits(y, "\"auto auto\"", "1 ");
        });
    }

    private static void kinds() {
        of(TERMS, "The kind 0 is above 1 and 2, 1 above 3 and 4, 2 above 5 and 6.", () -> {
            String[] above = {"0", "01", "02", "013", "014", "025", "026"};
            for (int kind = 0; kind <= 6; kind++) {
                Quillroom x = new Quillroom();
                add(x, "b", kind, -1);
                x.commit();
                ask(x, "b");
                StringBuilder kinds = new StringBuilder();
                for (int of = 0; of <= 6; of++) {
                    kinds.append(x.facet(of) == 1 ? "" + of : "");
                }
                due("kinds of a document of the kind " + kind, kinds.toString(), above[kind]);
            }
        });
        of(TERMS, "A document of a kind is also of all kinds above it.", () -> {
            Quillroom x = new Quillroom();
            add(x, "b", 0, -1);
            add(x, "b", 1, -1);
            add(x, "b", 4, -1);
            x.commit();
            String[] want = {"0 1 2 ", "1 2 ", "", "", "2 ", "", ""};
            for (int kind = 0; kind <= 6; kind++) {
                x.setFilter(kind);
                dueHits(x, "b", want[kind]);
            }
        });
    }

    /** The documents of each segment, and behind them how many are not marked. */
    private static String shape(Quillroom x) {
        StringBuilder shape = new StringBuilder();
        for (int segment = 0; segment < x.segments(); segment++) {
            for (int place = 0; place < x.sizeOf(segment); place++) {
                shape.append(x.documentAt(segment, place)).append(' ');
            }
            shape.append(":").append(x.liveIn(segment)).append(" ");
        }
        return shape.toString().trim();
    }

    private static void newSegments() {
        of(TERMS, "the documents that were added and not deleted since then are a new segment, as the last one, if there are any",
            () -> {
                Quillroom x = new Quillroom();
                due("commit of nothing", x.commit(), 0);
                x.add(0, -1);
                x.delete(0);
                due("commit of deleted ones", x.commit(), 0);
                segments(x, 3);
                due("commit of nothing", x.commit(), 1);
                x.add(0, -1);
                x.add(0, -1);
                x.add(0, -1);
                x.delete(5);
                due("commit", x.commit(), 2);
                due("segments", shape(x), "1 2 3 :3 4 6 :2");
                x.add(0, -1);
                x.delete(7);
                due("commit", x.commit(), 2);
                due("segments", shape(x), "1 2 3 :3 4 6 :2");
            });
        of(TERMS, "deleted ones in segments are marked there", () -> {
            Quillroom x = segments(new Quillroom(), 3);
            x.delete(1);
            due("ahead of the commit", shape(x), "0 1 2 :3");
            x.commit();
            due("behind it", shape(x), "0 1 2 :2");
            x.delete(0);
            x.commit();
            due("all but one", shape(x), "0 1 2 :1");
        });
    }

    private static void merges() {
        of(TERMS, "as long as there are 3 segments of one tier, the first 3 of the lowest such tier are merged", () -> {
            Quillroom x = segments(new Quillroom(), 1, 1);
            due("two of one tier", shape(x), "0 :1 1 :1");
            due("merges", x.merges(), 0);
            segments(x, 1);
            due("three of one tier", shape(x), "0 1 2 :3");
            due("merges", x.merges(), 1);
            Quillroom y = segments(new Quillroom(), 7, 7, 6, 1, 1, 3);
            due("two of each tier", y.segments(), 6);
            segments(y, 1);
            due("three of each tier, one behind the other", y.segments(), 1);
            due("merges", y.merges(), 3);
            due("sizeOf", y.sizeOf(0), 26);
        });
        of(TERMS, "the first one has all documents of these that are not marked, by rising numbers, and the others are gone", () -> {
            Quillroom x = segments(new Quillroom(), 1, 3, 2);
            x.delete(4);
            segments(x, 1);
            due("at the place of the first one", shape(x), "0 5 6 :3 1 2 3 :3");
            segments(x, 3);
            due("by rising numbers", shape(x), "0 1 2 3 5 6 7 8 9 :9");
        });
        of(TERMS, "Segments without a document that is not marked are gone, too, ahead of looking for tiers, each time.", () -> {
            Quillroom x = segments(new Quillroom(), 2, 2);
            x.delete(0);
            x.delete(1);
            segments(x, 2);
            due("two are left", shape(x), "2 3 :2 4 5 :2");
            due("merges", x.merges(), 0);
            x.delete(2);
            x.delete(3);
            x.delete(4);
            due("commit", x.commit(), 1);
            due("one with one that is not marked", shape(x), "4 5 :1");
            x.delete(5);
            due("commit", x.commit(), 0);
            due("none is left", shape(x), "");
        });
    }

    private static void dueSegments(int want, int... sizes) {
        StringBuilder told = new StringBuilder("segments of");
        for (int size : sizes) {
            told.append(' ').append(size);
        }
        due(told.toString(), segments(new Quillroom(), sizes).segments(), want);
    }

    private static void tiers() {
        of(TERMS, "The tier of a segment is 0 for up to 2 documents", () -> {
            dueSegments(1, 2, 2, 2);
            dueSegments(1, 1, 2, 2);
            dueSegments(3, 2, 2, 3);
            dueSegments(3, 1, 3, 3);
        });
        of(TERMS, "marked ones included", () -> {
            Quillroom x = segments(new Quillroom(), 3);
            x.delete(0);
            segments(x, 2, 2);
            due("3 with a marked one are of the tier 1", shape(x), "0 1 2 :2 3 4 :2 5 6 :2");
            Quillroom y = segments(new Quillroom(), 7);
            y.delete(6);
            segments(y, 6, 6);
            due("7 with a marked one are of the tier 2", y.segments(), 3);
            Quillroom z = segments(new Quillroom(), 3, 3);
            z.delete(0);
            segments(z, 3);
            due("3 with a marked one are still of the tier 1", shape(z), "1 2 3 4 5 6 7 8 :8");
        });
        of(TERMS, "1 for up to 6, 2 for more", () -> {
            dueSegments(1, 3, 6, 6);
            dueSegments(1, 3, 3, 3);
            dueSegments(3, 6, 6, 7);
            dueSegments(3, 6, 7, 7);
            dueSegments(1, 7, 7, 7);
            dueSegments(1, 7, 8, 45);
        });
    }

    private static void log() {
        of(TERMS, "Syncing makes all writes that wait safe.", () -> {
            Quillroom x = new Quillroom();
            due("sync of nothing", x.sync(), 0);
            added(x, "b", "c");
            x.delete(0);
            due("sync", x.sync(), 3);
            due("crash", x.crash(), 0);
            due("waiting", x.waiting(), 3);
            added(x, "d");
            due("a later write is not safe", x.crash(), 1);
            x.commit();
            dueHits(x, "b c d", "1 ");
        });
        of(TERMS, "A crash takes away all writes that wait and are not safe", () -> {
            Quillroom x = room("b", "c");
            due("crash of nothing", x.crash(), 0);
            due("what was committed stays", x.documents(-1), 2);
            added(x, "b");
            x.delete(0);
            x.delete(2);
            due("crash", x.crash(), 3);
            due("waiting", x.waiting(), 0);
            dueThrow("delete what was taken away", NoSuchElementException.class, x, y -> y.delete(2));
            due("delete of which the deletion was taken away", x.delete(0), 1);
            due("crash", x.crash(), 1);
            x.commit();
            dueHits(x, "b", "0 ");
            x.delete(1);
            x.sync();
            due("crash of what is safe", x.crash(), 0);
            x.commit();
            due("documents", x.documents(-1), 1);
            due("crash behind the commit", x.crash(), 0);
            due("documents", x.documents(-1), 1);
        });
        of(TERMS, "all readers are closed", () -> {
            Quillroom x = new Quillroom();
            x.openReader();
            x.openReader();
            x.openReader();
            due("crash of nothing", x.crash(), 0);
            for (int reader = 0; reader < 3; reader++) {
                int closed = reader;
                dueThrow("documents", NoSuchElementException.class, x, y -> y.documents(closed));
            }
            due("openReader", x.openReader(), 0);
        });
    }

    private static void readers() {
        of(TERMS, "At most 3 readers are numbered from 0", () -> {
            Quillroom x = new Quillroom();
            due("openReader", x.openReader(), 0);
            due("openReader", x.openReader(), 1);
            due("openReader", x.openReader(), 2);
            dueThrow("the 4th", IllegalStateException.class, x, y -> y.openReader());
        });
        of(TERMS, "a reader has the documents of the last commit when it was opened", () -> {
            Quillroom x = new Quillroom();
            x.openReader();
            added(x, "b", "b c");
            x.openReader();
            x.commit();
            x.delete(0);
            x.openReader();
            added(x, "b").commit();
            text(x, "b");
            due("opened on nothing", ranked(x, x.ask(0, 's')), "");
            due("opened on writes that wait", ranked(x, x.ask(1, 's')), "");
            due("opened behind the commit", ranked(x, x.ask(2, 's')), "0 1 ");
            due("the last commit", ranked(x, x.ask(-1, 's')), "2 1 ");
            due("documents", x.documents(2), 2);
        });
    }

    private static void questions() {
        of(TERMS, "A question is one clause or more, with one blank or more between them, blanks around them allowed.", () -> {
            dueFault("", 0);
            dueFault(" ", 1);
            dueFault(times(" ", 80), 80);
            dueQuestion("b");
            dueQuestion(" b ");
            dueQuestion("b c");
            dueQuestion("  b   c  ");
            dueQuestion(times("b ", 40));
            dueQuestion(times(" ", 79) + "b");
            dueFault("(b)(c)", 3);
            dueFault("\"b\"c", 3);
            dueFault("b(c)", 1);
            dueFault("b*c", 2);
            dueFault("[1,2]b", 5);
        });
        of(TERMS, "perhaps behind \"+\" or \"-\"", () -> {
            for (String clause : new String[] {"b", "b*", "b~", "\"b\"", "\"b\"~1", "[1,2]", "(b)"}) {
                dueQuestion(clause);
                dueQuestion("+" + clause);
                dueQuestion("-" + clause);
                dueFault("++" + clause, 1);
                dueFault("-+" + clause, 1);
                dueFault("+-" + clause, 1);
                dueFault(clause + "+", clause.length());
            }
            dueFault("+", 1);
            dueFault("b -", 3);
        });
    }

    private static void wordsOfQuestions() {
        of(TERMS, "a word of which all letters are a beginning, and \"*\"", () -> {
            dueQuestion("b*");
            dueQuestion(times("b", 79) + "*");
            dueFault("*", 0);
            dueFault("+*", 1);
            dueFault("b**", 2);
            dueFault("b*~", 2);
            Quillroom x = room("bing");
            dueHits(x, "b*", "0 ");
            dueHits(x, "bing*", "0 ");
            dueHits(x, "bingo*", "");
        });
        of(TERMS, "a word and \"~\"", () -> {
            dueQuestion("b~");
            dueQuestion(times("b", 79) + "~");
            dueFault("~", 0);
            dueFault("-~", 1);
            dueFault("b~~", 2);
            dueFault("b~*", 2);
            dueFault("b~1", 2);
        });
    }

    private static void phrasesOfQuestions() {
        of(TERMS, "words with blanks between and perhaps around them between two signs \"", () -> {
            dueQuestion("\"b\"");
            dueQuestion("\"b c\"");
            dueQuestion("\"  b   c  \"");
            dueQuestion("\"" + times("b ", 39) + "\"");
            dueFault("\"\"", 1);
            dueFault("\" \"", 2);
            dueFault("\"", 1);
            dueFault("\"b", 2);
            dueFault("\"b ", 3);
            dueFault("\"" + times("b", 79), 80);
            dueFault("\"1\"", 1);
            dueFault("\"b,c\"", 2);
            dueFault("\"b*\"", 2);
            dueFault("\"(b)\"", 1);
        });
        of(TERMS, "then perhaps \"~\" and a digit, the slop, 0 without", () -> {
            Quillroom x = room("p q", "p x q", "p" + times(" x", 9) + " q", "p" + times(" x", 10) + " q");
            dueHits(x, "\"p q\"", "0 ");
            dueHits(x, "\"p q\"~0", "0 ");
            dueHits(x, "\"p q\"~1", "0 1 ");
            dueHits(x, "\"p q\"~8", "0 1 ");
            dueHits(x, "\"p q\"~9", "0 1 2 ");
            dueFault("\"b\"~", 4);
            dueFault("\"b\"~b", 4);
            dueFault("\"b\"~ 1", 4);
            dueFault("\"b\"~10", 5);
            dueFault("\"b\"~1~1", 5);
        });
    }

    private static void rangesAndBrackets() {
        of(TERMS, "\"[\", one to three digits, \",\", one to three digits and \"]\", a range", () -> {
            dueQuestion("[0,0]");
            dueQuestion("[12,34]");
            dueQuestion("[000,999]");
            dueQuestion("[9,1]");
            dueFault("[,1]", 1);
            dueFault("[1,]", 3);
            dueFault("[0000,1]", 4);
            dueFault("[1,0000]", 6);
            dueFault("[1]", 2);
            dueFault("[1,2,3]", 4);
            dueFault("[1,2", 4);
            dueFault("[1,2)", 4);
            dueFault("[1", 2);
            dueFault("[1,", 3);
            dueFault("[", 1);
            dueFault("[-1,2]", 1);
            dueFault("[b,2]", 1);
        });
        of(TERMS, "\"(\", a question and \")\"", () -> {
            dueQuestion("(b)");
            dueQuestion("( b c )");
            dueQuestion("(+(-(b)))");
            dueQuestion(times("(", 39) + "b" + times(")", 39) + " ");
            dueFault("()", 1);
            dueFault("(  )", 3);
            dueFault("(b ())", 4);
            dueFault("(b", 2);
            dueFault("((b)", 4);
            dueFault("b)", 1);
            dueFault("(b))", 3);
            dueFault(")", 0);
            dueFault(times("(", 39) + "b" + times(")", 40), 79);
            dueFault(times("(", 80), 80);
        });
        of(TERMS, "Nothing else stands within a clause but as told.", () -> {
            dueFault("+ b", 1);
            dueFault("- (b)", 1);
            dueFault("b *", 2);
            dueFault("b ~", 2);
            dueFault("\"b\" ~1", 4);
            dueFault("[ 1,2]", 1);
            dueFault("[1 ,2]", 2);
            dueFault("[1, 2]", 3);
            dueFault("[1,2 ]", 4);
            dueFault("b1", 1);
            dueFault("1b", 0);
            dueFault("b,c", 1);
            dueFault("b]", 1);
            dueFault("(b)*", 3);
            dueFault("(b)~1", 3);
            dueFault("[1,2]~", 5);
            dueFault("b-c", 1);
        });
    }

    private static void faults() {
        of(TERMS, "A text that is no question has its fault at the first character that cannot stand behind those ahead, or at its end.",
            () -> {
                dueFault("1", 0);
                dueFault(",b", 0);
                dueFault("b) (c", 1);
                dueFault("b 1 2", 2);
                dueFault("(b 1", 3);
                dueFault("(b +", 4);
                dueFault(times("b", 79) + "1", 79);
                dueFault(times("b", 79) + "\"", 79);
                dueFault("(" + times("b", 79), 80);
                dueFault("\"" + times(" b", 39) + " ", 80);
            });
    }

    private static void wordsHold() {
        of(TERMS, "A word holds in a document if its stem is at a place; a stop alone holds in none.", () -> {
            Quillroom x = room("p" + times(" x", 38) + " q", "the thes", "jumps the", "");
            dueHits(x, "p", "0 ");
            dueHits(x, "q", "0 ");
            dueHits(x, "jumping", "2 ");
            dueHits(x, "jumpe", "");
            dueHits(x, "thes", "1 ");
            dueHits(x, "the", "");
            dueHits(x, "a of the to", "");
            dueHits(x, "+the jump", "");
            dueHits(x, "jump -the", "2 ");
        });
    }

    private static void beginningsHold() {
        of(TERMS, "A beginning is of stems as it stands", () -> {
            Quillroom x = room("jump", "thes", "jumper");
            dueHits(x, "jump*", "0 2 ");
            dueHits(x, "jumpe*", "2 ");
            dueHits(x, "jumps*", "");
            dueHits(x, "jumped*", "");
            dueHits(x, "jumpers*", "");
            dueHits(x, "the*", "1 ");
            dueHits(x, "thes*", "");
        });
        of(TERMS, "holds if one of the first 8 stems, in their order, of those that begin with it and are at a place of a document there, does",
            () -> {
                Quillroom x = room("fi", "fh", "fg", "ff", "fe", "fd", "fc", "fb", "fa", "e", "g");
                dueHits(x, "f*", "1 2 3 4 5 6 7 8 ");
                dueHits(x, "fi*", "0 ");
                dueHits(room("fh", "fg", "ff", "fe", "fd", "fc", "fb", "fa"), "f*", "0 1 2 3 4 5 6 7 ");
                dueHits(room("fh", "fg", "ff", "fe", "fd", "fc", "fb", "fa", "f"), "f*", "1 2 3 4 5 6 7 8 ");
                x.openReader();
                added(x, "faa");
                dueHits(x, "f*", "1 2 3 4 5 6 7 8 ");
                x.delete(7);
                x.crash();
                x.delete(8);
                dueHits(x, "f*", "1 2 3 4 5 6 7 8 ");
                x.openReader();
                x.commit();
                dueHits(x, "f*", "0 1 2 3 4 5 6 7 ");
                due("as the reader has it", ranked(x, x.ask(0, 's')), "1 2 3 4 5 6 7 8 ");
            });
    }

    private static void nearWordsHold() {
        of(TERMS, "A near word is its stem; it holds if one of the first 8 stems does", () -> {
            Quillroom x = room("fi", "fh", "fg", "ff", "fe", "fd", "fc", "fb", "fa", "gings");
            dueHits(x, "f~", "1 2 3 4 5 6 7 8 ");
            dueHits(room("fh", "fg", "ff", "fe", "fd", "fc", "fb", "fa"), "f~", "0 1 2 3 4 5 6 7 ");
            dueHits(room("fh", "fg", "ff", "fe", "fd", "fc", "fb", "fa", "f"), "f~", "1 2 3 4 5 6 7 8 ");
            dueHits(room("jump", "jumpin"), "jumping~", "0 ");
            x.delete(8);
            dueHits(x, "f~", "1 2 3 4 5 6 7 8 ");
            x.commit();
            dueHits(x, "f~", "0 1 2 3 4 5 6 7 ");
        });
        of(TERMS, "of those with a distance of 1 at most: which become it by putting in, leaving out or changing one letter", () -> {
            Quillroom x = room("cat", "cart", "at", "cut", "act", "dog", "catch", "ct", "c");
            dueHits(x, "cat~", "0 1 2 3 7 ");
            dueHits(x, "dig~", "5 ");
            dueHits(x, "b~", "8 ");
            dueHits(x, "d~", "8 ");
            dueHits(x, "tac~", "");
            dueHits(x, "scat~", "0 ");
        });
    }

    private static void phrasesHold() {
        of(TERMS, "each place less the one ahead of it, less the difference of both in the phrase, stops counted, is not less than 0", () -> {
            dueHits(room("b c"), "\"c b\"~9", "");
            dueHits(room("b"), "\"b b\"~9", "");
            dueHits(room("b b"), "\"b b\"", "0 ");
            Quillroom x = room("b x c", "b c", "b x x c", "b of c");
            dueHits(x, "\"b the c\"", "3 0 ");
            dueHits(x, "\"b the c\"~9", "3 0 2 ");
            dueHits(x, "\"the b to the c a\"", "2 ");
            dueHits(x, "\"b c\"", "1 ");
        });
        of(TERMS, "the sum of these is not greater than the slop", () -> {
            Quillroom x = room("p x q", "p x x q", "p x q x r");
            dueHits(x, "\"p q\"", "");
            dueHits(x, "\"p q\"~1", "0 2 ");
            dueHits(x, "\"p q\"~2", "0 1 2 ");
            dueHits(x, "\"p q r\"~1", "");
            dueHits(x, "\"p q r\"~2", "2 ");
            dueHits(room("p q x p q r"), "\"p q r\"", "0 ");
            dueHits(room("p p q x r"), "\"p q r\"~1", "0 ");
        });
        of(TERMS, "a phrase of stops alone holds in none", () -> {
            Quillroom x = room("a the", "the", "b");
            dueHits(x, "\"the\"", "");
            dueHits(x, "\"a the\"~9", "");
            dueHits(x, "+\"the\" b", "");
            dueHits(x, "b -\"the\"", "2 ");
            dueHits(x, "\"the b\"", "2 ");
        });
    }

    private static void rangesHold() {
        of(TERMS, "A range holds if the value is there and in it.", () -> {
            Quillroom x = new Quillroom();
            int[] values = {5, -1, 0, 999};
            for (int value : values) {
                x.add(0, value);
            }
            x.commit();
            dueHits(x, "[5,5]", "0 ");
            dueHits(x, "[4,5]", "0 ");
            dueHits(x, "[5,6]", "0 ");
            dueHits(x, "[4,4]", "");
            dueHits(x, "[6,6]", "");
            dueHits(x, "[6,4]", "");
            dueHits(x, "[0,0]", "2 ");
            dueHits(x, "[1,998]", "0 ");
            dueHits(x, "[999,999]", "3 ");
            dueHits(x, "[0,999]", "0 2 3 ");
            dueHits(x, "[005,05]", "0 ");
            x.add(0, 5);
            x.delete(0);
            dueHits(x, "[5,5]", "0 ");
            x.commit();
            dueHits(x, "[5,5]", "4 ");
        });
    }

    private static void dueHeld(Quillroom x, String question, String want) {
        due("ask " + question, hits(x, question, 'u'), want);
    }

    private static void questionsHold() {
        of(TERMS, "a question holds if all its clauses behind \"+\" do, none behind \"-\" does, and, if there is none behind \"+\", one of the others does",
            () -> {
                Quillroom x = room("b", "c", "b c", "d");
                dueHeld(x, "-b", "");
                dueHeld(x, "-b -c", "");
                dueHeld(x, "-x", "");
                dueHeld(x, "+b", "0 2 ");
                dueHeld(x, "+b c", "0 2 ");
                dueHeld(x, "+b x", "0 2 ");
                dueHeld(x, "+b +c", "2 ");
                dueHeld(x, "+b +x", "");
                dueHeld(x, "b c", "0 1 2 ");
                dueHeld(x, "b -c", "0 ");
                dueHeld(x, "+b -b", "");
                dueHeld(x, "b c -x", "0 1 2 ");
                dueHeld(x, "b c d -b -c", "3 ");
            });
        of(TERMS, "A question in brackets holds as told now", () -> {
            Quillroom x = room("b", "c", "b c", "d");
            dueHeld(x, "(-b)", "");
            dueHeld(x, "+(-b) d", "");
            dueHeld(x, "d -(-b)", "3 ");
            dueHeld(x, "d (+b -c)", "0 3 ");
            dueHeld(x, "c -(b -d)", "1 ");
            dueHeld(x, "(b d) +c", "1 2 ");
            dueHeld(x, "+(b d) +(c d)", "2 3 ");
        });
    }

    private static void weights() {
        of(TERMS, "N is the number of documents there, A the sum of their lengths divided by N, both converted to float.", () -> {
            Quillroom x = room("b c", "b", "", "the", "c c c");
            dueScore(x, "b", 1, score(1.0f + 3.0f / 3.0f, 1, 2, (float) 6 / (float) 5));
            x.openReader();
            x.delete(4);
            dueScore(x, "b", 1, score(1.0f + 3.0f / 3.0f, 1, 2, (float) 6 / (float) 5));
            x.commit();
            due("the marked one is in the segment", x.sizeOf(0), 5);
            dueScore(x, "b", 1, score(1.0f + 2.0f / 3.0f, 1, 2, (float) 3 / (float) 4));
            x.ask(0, 's');
            due("of the reader", x.scoreBits(1), Float.floatToIntBits(score(1.0f + 3.0f / 3.0f, 1, 2, (float) 6 / (float) 5)));
            added(x, "b b b b");
            dueScore(x, "b", 1, score(1.0f + 2.0f / 3.0f, 1, 2, (float) 3 / (float) 4));
        });
        of(TERMS, "its weight is 1.0f + (float) (N - d) / (float) (d + 1)", () -> {
            dueScore(room("b"), "b", 0, score(1.0f, 1, 1, 1.0f));
            dueScore(room("b", "b", "b"), "b", 2, score(1.0f, 1, 1, 1.0f));
            dueScore(room("b", "c"), "b", 0, score(1.5f, 1, 1, 1.0f));
            dueScore(room("b", "b", "c"), "b", 0, score(1.0f + 1.0f / 3.0f, 1, 1, 1.0f));
            Quillroom x = added(new Quillroom(), "b");
            for (int i = 1; i < 60; i++) {
                added(x, "c");
            }
            x.commit();
            dueScore(x, "b", 0, score(30.5f, 1, 1, 1.0f));
            dueScore(x, "c", 58, score(1.0f + 1.0f / 60.0f, 1, 1, 1.0f));
        });
    }

    private static void lengths() {
        of(TERMS, "A document of the length L counts with the length l, which is L with all but its three highest bits made 0.", () -> {
            int[] counted = {0, 1, 2, 3, 4, 5, 6, 7, 8, 8, 10, 10, 12, 12, 14, 14, 16, 16, 16, 16, 20, 20, 20, 20,
                24, 24, 24, 24, 28, 28, 28, 28, 32, 32, 32, 32, 32, 32, 32, 32, 40};
            for (int size = 1; size <= 40; size++) {
                dueScore(room(times("b ", size)), "b", 0, score(1.0f, size, counted[size], (float) size));
            }
            Quillroom x = room("b the a b", "b");
            dueScore(x, "b", 0, score(1.0f, 2, 2, 1.5f));
        });
    }

    private static void clauses() {
        of(TERMS, "For a word, f is the number of places of its stem, and w the weight of its stem", () -> {
            Quillroom x = new Quillroom();
            text(x, "auto cat").addAlias();
            added(x, "cat dog cats auto the", times("cat ", 20), "dog").commit();
            float mean = (float) 25 / (float) 3;
            dueScore(x, "cat", 1, score(1.0f + 1.0f / 3.0f, 3, 4, mean));
            dueScore(x, "cat", 0, score(1.0f + 1.0f / 3.0f, 20, 20, mean));
            dueScore(x, "auto", 0, score(2.0f, 1, 4, mean));
        });
        of(TERMS, "for a phrase, f is the number of first places p for which it holds", () -> {
            dueScore(room("b b c"), "\"b c\"~1", 0, score(2.0f, 2, 3, 3.0f));
            dueScore(room("b b c"), "\"b c\"", 0, score(2.0f, 1, 3, 3.0f));
            dueScore(room("b c c"), "\"b c\"~1", 0, score(2.0f, 1, 3, 3.0f));
            dueScore(room("x b c"), "\"the b c\"", 0, score(2.0f, 1, 3, 3.0f));
            dueScore(room("b b b b"), "\"b b\"", 0, score(2.0f, 3, 4, 4.0f));
            dueScore(room("b" + times(" b", 39)), "\"b b\"~9", 0, score(2.0f, 39, 40, 40.0f));
        });
        of(TERMS, "w the sum of the weights of its stems, from the left, those that stand twice added twice, from 0.0f", () -> {
            Quillroom x = room("b c d d c b", "b c d", "d");
            float of2 = 1.0f + 1.0f / 3.0f;
            float mean = (float) 10 / (float) 3;
            due("it matters from where", of2 + of2 + 1.0f == 1.0f + of2 + of2 ? 1 : 0, 0);
            dueScore(x, "\"b c d\"", 1, score(of2 + of2 + 1.0f, 1, 6, mean));
            dueScore(x, "\"d c b\"", 0, score(1.0f + of2 + of2, 1, 6, mean));
            dueScore(x, "\"b\"", 1, score(of2, 1, 3, mean));
            dueScore(x, "\"d d\"", 0, score(1.0f + 1.0f, 1, 6, mean));
        });
        of(TERMS, "For a beginning, a near word and a range, the score is 1.0f", () -> {
            Quillroom x = new Quillroom();
            add(x, "b b bc bd", 0, 7);
            add(x, "x", 0, -1);
            x.commit();
            dueScore(x, "b*", 0, 1.0f);
            dueScore(x, "b~", 0, 1.0f);
            dueScore(x, "[0,999]", 0, 1.0f);
            dueScore(x, "b* b~ [7,7] bd*", 0, 4.0f);
        });
    }

    private static void sums() {
        of(TERMS, "for a question in brackets, its own", () -> {
            Quillroom x = room("b c d", "d");
            float alone = score(1.5f, 1, 3, 2.0f);
            float both = score(1.0f, 1, 3, 2.0f);
            due("it matters where brackets stand", alone + alone + both == alone + (alone + both) ? 1 : 0, 0);
            dueScore(x, "b (c d)", 0, alone + (alone + both));
            dueScore(x, "(b c) d", 0, alone + alone + both);
            dueScore(x, "(((b)))", 0, alone);
            dueScore(x, "(b x -x) (x b)", 0, alone + alone);
        });
        of(TERMS, "The score of a question is the sum of the scores of its clauses that hold, other than behind \"-\", from the left, from 0.0f.",
            () -> {
                Quillroom x = room("b c d", "d");
                float alone = score(1.5f, 1, 3, 2.0f);
                float both = score(1.0f, 1, 3, 2.0f);
                due("it matters from where", alone + alone + both == both + alone + alone ? 1 : 0, 0);
                dueScore(x, "b c d", 0, alone + alone + both);
                dueScore(x, "d c b", 0, both + alone + alone);
                dueScore(x, "+d c +b", 0, both + alone + alone);
                dueScore(x, "b b", 0, alone + alone);
                dueScore(x, "b x -x", 0, alone);
                dueScore(x, "d -c", 0, score(1.0f, 1, 1, 2.0f));
                dueScore(x, "+d b*", 1, score(1.0f, 1, 1, 2.0f));
            });
    }

    private static void answers() {
        of(TERMS, "An answer has all documents in which a question holds, and that are of the filter's kind, if there is one.", () -> {
            Quillroom x = new Quillroom();
            for (int i = 0; i < 60; i++) {
                add(x, "b", i < 58 ? 1 : 5, -1);
            }
            x.commit();
            due("all 60", ask(x, "b"), 60);
            due("the last one", x.hit(59), 59);
            due("none", ask(x, "c"), 0);
            x.setFilter(0);
            due("of the kind 0", ask(x, "b"), 60);
            x.setFilter(2);
            dueHits(x, "b", "58 59 ");
            x.setFilter(3);
            dueHits(x, "b", "");
        });
        of(TERMS, "'s' scores, greatest first; 'u' values, least first; or 'd' values, greatest first; those without a value last", () -> {
            Quillroom x = new Quillroom();
            int[] values = {-1, 0, 999, 500, -1};
            for (int i = 0; i < values.length; i++) {
                add(x, times("b ", i + 1) + "c", 0, values[i]);
            }
            x.commit();
            due("by values that rise", hits(x, "c", 'u'), "1 3 2 0 4 ");
            due("by values that fall", hits(x, "c", 'd'), "2 3 1 0 4 ");
            due("by scores", hits(x, "c", 's'), "0 1 2 3 4 ");
            due("by scores", hits(x, "b", 's'), "4 3 2 1 0 ");
        });
        of(TERMS, "equal ones by rising numbers", () -> {
            Quillroom x = new Quillroom();
            int[] values = {-1, 7, 7, -1, 7};
            for (int value : values) {
                add(x, "b", 0, value);
            }
            x.commit();
            due("by values that rise", hits(x, "b", 'u'), "1 2 4 0 3 ");
            due("by values that fall", hits(x, "b", 'd'), "1 2 4 0 3 ");
            due("by scores", hits(x, "b", 's'), "0 1 2 3 4 ");
        });
        of(TERMS, "It stays until the next question is answered.", () -> {
            Quillroom x = room("b", "b c");
            ask(x, "b");
            x.page(1);
            x.delete(0);
            x.commit();
            x.crash();
            x.setFilter(6);
            text(x, "(");
            dueThrow("ask what is no question", UnsupportedOperationException.class, x, y -> y.ask(-1, 's'));
            due("fault", x.fault(), 1);
            due("the answer", ranked(x, 2), "0 1 ");
            due("pageAt", x.pageAt(), 1);
            due("passageStems", x.passageStems(0), 1);
            due("the next answer", ask(x, "x"), 0);
            dueThrow("hit", IndexOutOfBoundsException.class, x, y -> y.hit(0));
        });
    }
}
