import java.util.ArrayList;
import java.util.Arrays;
import java.util.HashSet;
import java.util.LinkedHashSet;
import java.util.List;
import java.util.NoSuchElementException;
import java.util.Random;
import java.util.Set;
import java.util.TreeMap;
import java.util.TreeSet;
import java.util.regex.Matcher;
import java.util.regex.Pattern;

/**
 * Plays random runs on Quillroom and on a plain model that was written from the document with the
 * Java library and shares no code with it, and compares every answer and every exception.
 */
public final class RandomRunsTest {
    private static final int RUNS = 3000;
    private static final int CALLS = 512;
    private static final int LONG_CALLS = 3000;
    private static int wrong = 0;

    public static void main(String[] args) {
        for (int run = 0; run < RUNS && wrong < 20; run++) {
            play(run);
        }
        System.out.println(wrong == 0 ? RUNS + " random runs are as due" : wrong + " answers are not as due");
        if (wrong != 0) {
            System.exit(1);
        }
    }

    private static void play(int run) {
        Random random = new Random(run);
        Quillroom room = new Quillroom();
        Model model = new Model();
        Writer writer = new Writer(random, run % 3 == 0);
        List<String> story = new ArrayList<>();
        int calls = 0;
        int most = run % 10 == 0 ? LONG_CALLS : CALLS;
        while (calls < most) {
            String text = writer.textForNext();
            if (text != null) {
                calls += text.length() + 1;
                story.add("text \"" + text + "\"");
                if (!compare(run, story, "erase", room, model, 0, 0)) {
                    return;
                }
                for (int i = 0; i < text.length(); i++) {
                    if (!compare(run, story, "type", room, model, text.charAt(i), 0)) {
                        return;
                    }
                }
            }
            String call = writer.callForNext();
            int first = writer.firstFor(call, model);
            int second = writer.secondFor(call);
            calls++;
            story.add(call + "(" + first + ", " + second + ")");
            if (!compare(run, story, call, room, model, first, second)) {
                return;
            }
        }
        for (String call : new String[] {"isSound", "stems", "lengths", "segments", "merges", "markedShare", "meanSize"}) {
            compare(run, story, call, room, model, 0, 0);
        }
    }

    private static boolean compare(int run, List<String> story, String call, Quillroom room, Model model,
            int first, int second) {
        String got = onRoom(room, call, first, second);
        String due = onModel(model, call, first, second);
        if (got.equals(due)) {
            return true;
        }
        wrong++;
        System.out.println("run " + run + ": " + call + "(" + first + ", " + second + ") answered " + got
                + ", due is " + due + ", after " + story);
        return false;
    }

    private static String onRoom(Quillroom x, String call, int a, int b) {
        try {
            switch (call) {
                case "type": return "" + x.type((char) a);
                case "erase": return "" + x.erase();
                case "add": return "" + x.add(a, b);
                case "delete": return "" + x.delete(a);
                case "addAlias": return "" + x.addAlias();
                case "commit": return "" + x.commit();
                case "sync": return "" + x.sync();
                case "crash": return "" + x.crash();
                case "waiting": return "" + x.waiting();
                case "segments": return "" + x.segments();
                case "sizeOf": return "" + x.sizeOf(a);
                case "liveIn": return "" + x.liveIn(a);
                case "documentAt": return "" + x.documentAt(a, b);
                case "merges": return "" + x.merges();
                case "openReader": return "" + x.openReader();
                case "closeReader": return "" + x.closeReader(a);
                case "documents": return "" + x.documents(a);
                case "fault": return "" + x.fault();
                case "ask": return "" + x.ask(a, (char) b);
                case "hit": return "" + x.hit(a);
                case "scoreBits": return "" + x.scoreBits(a);
                case "valueOf": return "" + x.valueOf(a);
                case "page": return "" + x.page(a);
                case "pageAt": return "" + x.pageAt();
                case "setFilter": return "" + x.setFilter(a);
                case "facet": return "" + x.facet(a);
                case "passage": return "" + x.passage(a);
                case "passageStems": return "" + x.passageStems(a);
                case "suggest": return "" + x.suggest();
                case "suggestedAt": return "" + (int) x.suggestedAt(a);
                case "frequency": return "" + x.frequency(a);
                case "stems": return "" + x.stems();
                case "lengths": return "" + x.lengths();
                case "markedShare": return "" + x.markedShare();
                case "meanSize": return "" + x.meanSize();
                default: return "" + x.isSound();
            }
        } catch (RuntimeException e) {
            return e.getClass().getSimpleName();
        }
    }

    private static String onModel(Model x, String call, int a, int b) {
        try {
            switch (call) {
                case "type": return "" + x.type((char) a);
                case "erase": return "" + x.erase();
                case "add": return "" + x.add(a, b);
                case "delete": return "" + x.delete(a);
                case "addAlias": return "" + x.addAlias();
                case "commit": return "" + x.commit();
                case "sync": return "" + x.sync();
                case "crash": return "" + x.crash();
                case "waiting": return "" + x.log.size();
                case "segments": return "" + x.segments.size();
                case "sizeOf": return "" + x.segment(a).size();
                case "liveIn": return "" + x.live(x.segment(a)).size();
                case "documentAt": return "" + x.documentAt(a, b);
                case "merges": return "" + x.merges;
                case "openReader": return "" + x.openReader();
                case "closeReader": return "" + x.closeReader(a);
                case "documents": return "" + x.view(a).size();
                case "fault": return "" + x.fault();
                case "ask": return "" + x.ask(a, (char) b);
                case "hit": return "" + x.hit(a);
                case "scoreBits": return "" + Float.floatToIntBits(x.scores.get(x.hit(a)));
                case "valueOf": return "" + x.valueOf(a);
                case "page": return "" + x.page(a);
                case "pageAt": return "" + x.pageAt();
                case "setFilter": return "" + x.setFilter(a);
                case "facet": return "" + x.facet(a);
                case "passage": return "" + x.passage(a)[0];
                case "passageStems": return "" + x.passage(a)[1];
                case "suggest": return "" + x.suggest();
                case "suggestedAt": return "" + (int) x.suggestedAt(a);
                case "frequency": return "" + x.frequency(a);
                case "stems": return "" + x.stemsOf(x.current).size();
                case "lengths": return "" + x.lengthsOf(x.current);
                case "markedShare": return "" + x.markedShare();
                case "meanSize": return "" + x.meanSize();
                default: return "true";
            }
        } catch (RuntimeException e) {
            return e.getClass().getSimpleName();
        }
    }

    /** Makes up texts and calls that often meet one another. */
    private static final class Writer {
        private static final String[] WORDS = {"fox", "foxes", "foxed", "fix", "box", "boxing", "the", "a", "of", "to",
            "thes", "jump", "jumping", "jumped", "jumps", "bump", "dog", "dogs", "do", "d", "x", "b", "oxen", "ox",
            "boxes", "bo", "bob", "bobs", "foxy", "fog", "fogs", "dig", "dot", "dots", "dozed", "theed"};
        private static final String[] PLAIN = {"commit", "commit", "commit", "sync", "crash", "waiting", "segments",
            "sizeOf", "liveIn", "documentAt", "merges", "openReader", "closeReader", "documents", "hit", "hit",
            "scoreBits", "scoreBits", "valueOf", "page", "pageAt", "setFilter", "facet", "facet", "passage",
            "passage", "passageStems", "passageStems", "suggestedAt", "stems", "lengths", "markedShare", "meanSize",
            "isSound", "delete", "delete", "delete", "add", "fault", "ask"};
        private static final String STRANGE = "ab1 \"*~+-[],()";
        private final Random random;
        private final boolean isShort;
        private String next = "add";
        private int more = 0;

        Writer(Random random, boolean isShort) {
            this.random = random;
            this.isShort = isShort;
        }

        /** The text that is to be typed ahead of the next call, or null when none is. */
        String textForNext() {
            if (more > 0) {
                more--;
                next = PLAIN[random.nextInt(PLAIN.length)];
                return null;
            }
            int dice = random.nextInt(100);
            more = random.nextInt(isShort ? 6 : 12);
            if (dice < 45) {
                next = "add";
                return documentText();
            }
            if (dice < 80) {
                next = random.nextInt(8) == 0 ? "fault" : "ask";
                return random.nextInt(4) == 0 ? spoilt(question(0)) : limited(question(0));
            }
            if (dice < 85) {
                next = "addAlias";
                return random.nextInt(5) == 0 ? documentText() : word() + " " + word();
            }
            if (dice < 95) {
                next = random.nextInt(2) == 0 ? "suggest" : "frequency";
                return random.nextInt(6) == 0 ? limited(spoilt(word())) : word();
            }
            next = "add";
            return "";
        }

        String callForNext() {
            return next;
        }

        int firstFor(String call, Model model) {
            switch (call) {
                case "add": return random.nextInt(25) == 0 ? random.nextInt(10) - 2 : random.nextInt(7);
                case "delete": return random.nextInt(model.documents.size() + 2) - 1;
                case "sizeOf":
                case "liveIn":
                case "documentAt": return random.nextInt(model.segments.size() + 2) - 1;
                case "closeReader": return random.nextInt(5) - 1;
                case "documents":
                case "ask":
                case "frequency": return random.nextInt(4) == 0 ? random.nextInt(6) - 2 : -1;
                case "hit":
                case "scoreBits":
                case "valueOf":
                case "passage":
                case "passageStems": return random.nextInt(6) == 0 ? random.nextInt(80) - 2
                        : random.nextInt(Math.max(1, model.ranked.size()));
                case "page": return random.nextInt(8) == 0 ? random.nextInt(30) - 2 : 1 + random.nextInt(4);
                case "setFilter": return random.nextInt(2) == 0 ? -1 : random.nextInt(10) - 2;
                case "facet": return random.nextInt(9) - 1;
                case "suggestedAt": return random.nextInt(8) - 1;
                default: return 0;
            }
        }

        int secondFor(String call) {
            switch (call) {
                case "add": return random.nextInt(25) == 0 ? random.nextInt(2000) - 500
                        : random.nextInt(4) == 0 ? -1 : random.nextInt(random.nextBoolean() ? 12 : 1000);
                case "documentAt": return random.nextInt(10) - 1;
                case "ask": return random.nextInt(20) == 0 ? 'x' : "sssudsud".charAt(random.nextInt(8));
                default: return 0;
            }
        }

        private String word() {
            if (random.nextInt(12) == 0) {
                StringBuilder made = new StringBuilder();
                for (int i = random.nextInt(5); i >= 0; i--) {
                    made.append("abdfox".charAt(random.nextInt(6)));
                }
                return made.append(random.nextInt(3) == 0 ? "ing" : "").toString();
            }
            return WORDS[random.nextInt(WORDS.length)];
        }

        private String documentText() {
            StringBuilder text = new StringBuilder();
            for (int i = random.nextInt(isShort ? 4 : 10); i >= 0; i--) {
                text.append(word()).append(random.nextInt(15) == 0 ? STRANGE.substring(2 + random.nextInt(11)) : " ");
            }
            return limited(text.toString());
        }

        private static String limited(String text) {
            return text.length() > 80 ? text.substring(0, 80) : text;
        }

        private String spoilt(String text) {
            StringBuilder changed = new StringBuilder(text);
            int place = random.nextInt(text.length() + 1);
            char sign = STRANGE.charAt(random.nextInt(STRANGE.length()));
            if (place < text.length() && random.nextBoolean()) {
                changed.setCharAt(place, sign);
            } else if (random.nextBoolean()) {
                changed.insert(place, sign);
            } else {
                changed.setLength(place);
            }
            return limited(changed.toString());
        }

        private String question(int depth) {
            StringBuilder text = new StringBuilder(blanks());
            for (int i = random.nextInt(3); i >= 0; i--) {
                text.append("  +-".charAt(random.nextInt(4)));
                text.append(clause(depth)).append(i > 0 ? " " : "").append(blanks());
            }
            return text.toString();
        }

        private String blanks() {
            return random.nextInt(10) == 0 ? " " : "";
        }

        private String clause(int depth) {
            int dice = random.nextInt(depth > 3 ? 11 : 13);
            if (dice < 4) {
                return word();
            }
            if (dice < 5) {
                return word().substring(0, 1) + "*";
            }
            if (dice < 6) {
                return word() + "*";
            }
            if (dice < 7) {
                return word() + "~";
            }
            if (dice < 10) {
                return phrase();
            }
            if (dice < 11) {
                int least = random.nextInt(20);
                return "[" + least + "," + (random.nextBoolean() ? least + random.nextInt(10) : random.nextInt(1000)) + "]";
            }
            return "(" + question(depth + 1).replaceFirst("^ ", blanks()) + ")";
        }

        private String phrase() {
            StringBuilder text = new StringBuilder("\"").append(blanks());
            for (int i = random.nextInt(3); i >= 0; i--) {
                text.append(word()).append(i > 0 ? " " : "").append(blanks());
            }
            return text.append(random.nextInt(2) == 0 ? "\"" : "\"~" + random.nextInt(10)).toString();
        }
    }

    private static final class Document {
        final int number;
        final int kind;
        final int value;
        final List<Set<String>> places = new ArrayList<>();
        int length = 0;

        Document(int number, String text, int kind, int value, List<String> aliases) {
            this.number = number;
            this.kind = kind;
            this.value = value;
            Matcher words = Pattern.compile("[a-z]+").matcher(text);
            while (words.find()) {
                Set<String> stems = new HashSet<>();
                if (!isStop(words.group())) {
                    length++;
                    String stem = stem(words.group());
                    stems.add(stem);
                    for (String alias : aliases) {
                        if (alias.startsWith(stem + " ")) {
                            stems.add(alias.substring(stem.length() + 1));
                        }
                    }
                }
                places.add(stems);
            }
        }

        boolean has(String stem) {
            return count(stem) > 0;
        }

        int count(String stem) {
            int count = 0;
            for (Set<String> stems : places) {
                count += stems.contains(stem) ? 1 : 0;
            }
            return count;
        }

        boolean isOf(int above) {
            int reached = kind;
            while (reached != above && reached != 0) {
                reached = reached == 1 || reached == 2 ? 0 : reached <= 4 ? 1 : 2;
            }
            return reached == above;
        }
    }

    private static boolean isStop(String word) {
        return Arrays.asList("a", "of", "the", "to").contains(word);
    }

    private static String stem(String word) {
        if (word.length() >= 6 && word.endsWith("ing")) {
            return word.substring(0, word.length() - 3);
        }
        if (word.length() >= 5 && word.endsWith("ed")) {
            return word.substring(0, word.length() - 2);
        }
        return word.length() >= 4 && word.endsWith("s") ? word.substring(0, word.length() - 1) : word;
    }

    private static int distance(String one, String other) {
        int[][] table = new int[one.length() + 1][other.length() + 1];
        for (int i = 0; i <= one.length(); i++) {
            for (int j = 0; j <= other.length(); j++) {
                if (i == 0 || j == 0) {
                    table[i][j] = i + j;
                } else {
                    int changed = table[i - 1][j - 1] + (one.charAt(i - 1) == other.charAt(j - 1) ? 0 : 1);
                    table[i][j] = Math.min(changed, 1 + Math.min(table[i - 1][j], table[i][j - 1]));
                }
            }
        }
        return table[one.length()][other.length()];
    }

    private static final class Model {
        private static final String PHRASE = "\" *[a-z]+(?: +[a-z]+)* *\"(?:~[0-9])?";
        // A mark that no text has stands for a question in brackets.
        private static final String CLAUSE = "[+-]?(?:[a-z]+[*~]?|" + PHRASE + "|\\[[0-9]{1,3},[0-9]{1,3}\\]|#)";
        private static final String QUESTION = " *" + CLAUSE + "(?: +" + CLAUSE + ")* *";
        private static final Pattern BRACKETS = Pattern.compile("\\(" + QUESTION + "\\)");
        private static final String[] ENDINGS = {"", "a", "a\"", "\"", "1", "1,1]", ",1]", "1]", "]"};

        String text = "";
        final List<Document> documents = new ArrayList<>();
        final List<String> aliases = new ArrayList<>();
        final List<int[]> log = new ArrayList<>();
        int safe = 0;
        final List<List<Integer>> segments = new ArrayList<>();
        final Set<Integer> marked = new HashSet<>();
        Set<Integer> current = new TreeSet<>();
        int merges = 0;
        final TreeMap<Integer, Set<Integer>> readers = new TreeMap<>();
        int filter = -1;
        String suggested = null;
        boolean isAnswered = false;
        List<Integer> ranked = new ArrayList<>();
        TreeMap<Integer, Float> scores = new TreeMap<>();
        Set<Integer> held = new TreeSet<>();
        Set<String> wanted = new HashSet<>();
        int next = 0;
        Set<Integer> there = new TreeSet<>();

        int type(char sign) {
            if (!("" + sign).matches("[a-z0-9 \"*~+\\-\\[\\],()]")) {
                throw new IllegalArgumentException();
            }
            if (text.length() == 80) {
                throw new IllegalStateException();
            }
            text += sign;
            return text.length();
        }

        int erase() {
            int size = text.length();
            text = "";
            return size;
        }

        int add(int kind, int value) {
            if (kind < 0 || kind > 6 || value < -1 || value > 999) {
                throw new IllegalArgumentException();
            }
            if (documents.size() == 60) {
                throw new IllegalStateException();
            }
            Document made = new Document(documents.size(), text, kind, value, new ArrayList<>(aliases));
            documents.add(made);
            log.add(new int[] {made.number, 1});
            text = "";
            return made.number;
        }

        int delete(int document) {
            boolean isThere = current.contains(document);
            for (int[] write : log) {
                if (write[0] == document) {
                    isThere = write[1] == 1;
                }
            }
            if (!isThere) {
                throw new NoSuchElementException();
            }
            log.add(new int[] {document, 0});
            return log.size();
        }

        int addAlias() {
            if (!text.matches("[a-z]+ [a-z]+")) {
                throw new UnsupportedOperationException();
            }
            String[] words = text.split(" ");
            String alias = stem(words[0]) + " " + stem(words[1]);
            if (isStop(words[0]) || isStop(words[1]) || stem(words[0]).equals(stem(words[1]))) {
                throw new UnsupportedOperationException();
            }
            if (aliases.size() == 6 || aliases.contains(alias)) {
                throw new IllegalStateException();
            }
            aliases.add(alias);
            text = "";
            return aliases.size();
        }

        int commit() {
            List<Integer> made = new ArrayList<>();
            for (int[] write : log) {
                if (write[1] == 1) {
                    made.add(write[0]);
                } else if (!made.remove((Integer) write[0])) {
                    marked.add(write[0]);
                }
            }
            if (!made.isEmpty()) {
                segments.add(made);
            }
            log.clear();
            safe = 0;
            boolean isMerging = true;
            while (isMerging) {
                segments.removeIf(segment -> live(segment).isEmpty());
                isMerging = mergeLowest();
            }
            current = new TreeSet<>();
            for (List<Integer> segment : segments) {
                current.addAll(live(segment));
            }
            return segments.size();
        }

        private boolean mergeLowest() {
            for (int tier = 0; tier <= 2; tier++) {
                List<List<Integer>> same = new ArrayList<>();
                for (List<Integer> segment : segments) {
                    int size = segment.size();
                    if ((size <= 2 ? 0 : size <= 6 ? 1 : 2) == tier) {
                        same.add(segment);
                    }
                }
                if (same.size() >= 3) {
                    TreeSet<Integer> all = new TreeSet<>();
                    for (int i = 0; i < 3; i++) {
                        all.addAll(live(same.get(i)));
                    }
                    for (int i = 0; i < segments.size(); i++) {
                        if (segments.get(i) == same.get(0)) {
                            segments.set(i, new ArrayList<>(all));
                        }
                    }
                    segments.removeIf(segment -> segment == same.get(1) || segment == same.get(2));
                    merges++;
                    return true;
                }
            }
            return false;
        }

        List<Integer> live(List<Integer> segment) {
            List<Integer> live = new ArrayList<>(segment);
            live.removeAll(marked);
            return live;
        }

        List<Integer> segment(int place) {
            if (place < 0 || place >= segments.size()) {
                throw new IndexOutOfBoundsException();
            }
            return segments.get(place);
        }

        int documentAt(int segment, int place) {
            List<Integer> members = segment(segment);
            if (place < 0 || place >= members.size()) {
                throw new IndexOutOfBoundsException();
            }
            return members.get(place);
        }

        int sync() {
            safe = log.size();
            return safe;
        }

        int crash() {
            int lost = log.size() - safe;
            log.subList(safe, log.size()).clear();
            readers.clear();
            return lost;
        }

        int openReader() {
            for (int number = 0; number < 3; number++) {
                if (!readers.containsKey(number)) {
                    readers.put(number, new TreeSet<>(current));
                    return number;
                }
            }
            throw new IllegalStateException();
        }

        int closeReader(int reader) {
            if (readers.remove(reader) == null) {
                throw new NoSuchElementException();
            }
            return readers.size();
        }

        Set<Integer> view(int reader) {
            Set<Integer> members = reader == -1 ? current : readers.get(reader);
            if (members == null) {
                throw new NoSuchElementException();
            }
            return members;
        }

        private static boolean isQuestion(String text) {
            String left = text;
            String before;
            do {
                before = left;
                left = BRACKETS.matcher(left).replaceFirst("#");
            } while (!left.equals(before));
            return left.matches(QUESTION);
        }

        /** The longest beginning of the text that some end makes a question tells the fault. */
        int fault() {
            if (isQuestion(text)) {
                throw new NoSuchElementException();
            }
            int good = 0;
            for (int size = 1; size <= text.length(); size++) {
                if (mayGoOn(text.substring(0, size))) {
                    good = size;
                }
            }
            return good;
        }

        private static boolean mayGoOn(String beginning) {
            int open = beginning.length() - beginning.replace("(", "").length();
            int closed = beginning.length() - beginning.replace(")", "").length();
            if (closed > open) {
                return false;
            }
            for (String ending : ENDINGS) {
                if (isQuestion(beginning + ending + ")".repeat(open - closed))) {
                    return true;
                }
            }
            return false;
        }

        int ask(int reader, char order) {
            Set<Integer> asked = view(reader);
            if ("sud".indexOf(order) < 0) {
                throw new IllegalArgumentException();
            }
            if (!isQuestion(text)) {
                throw new UnsupportedOperationException();
            }
            isAnswered = true;
            next = 0;
            there = new TreeSet<>(asked);
            wanted = new HashSet<>();
            gather(text, wanted);
            held = new TreeSet<>();
            ranked = new ArrayList<>();
            scores = new TreeMap<>();
            for (int number : there) {
                Float score = ofQuestion(text, documents.get(number));
                if (score != null) {
                    held.add(number);
                    if (filter < 0 || documents.get(number).isOf(filter)) {
                        ranked.add(number);
                        scores.put(number, score);
                    }
                }
            }
            ranked.sort((one, other) -> ahead(order, one, other));
            return ranked.size();
        }

        private int ahead(char order, int one, int other) {
            int first = documents.get(one).value;
            int second = documents.get(other).value;
            if (order == 's') {
                int difference = Float.compare(scores.get(other), scores.get(one));
                return difference != 0 ? difference : one - other;
            }
            if ((first < 0) != (second < 0)) {
                return first < 0 ? 1 : -1;
            }
            int difference = order == 'u' ? first - second : second - first;
            return difference != 0 ? difference : one - other;
        }

        private static List<String> clauses(String question) {
            List<String> clauses = new ArrayList<>();
            StringBuilder part = new StringBuilder();
            int depth = 0;
            boolean isQuoted = false;
            for (char sign : (question + " ").toCharArray()) {
                isQuoted ^= sign == '"';
                depth += sign == '(' ? 1 : sign == ')' ? -1 : 0;
                if (sign == ' ' && depth == 0 && !isQuoted) {
                    if (part.length() > 0) {
                        clauses.add(part.toString());
                    }
                    part.setLength(0);
                } else {
                    part.append(sign);
                }
            }
            return clauses;
        }

        private static void gather(String question, Set<String> stems) {
            for (String clause : clauses(question)) {
                String bare = clause.replaceFirst("^[+-]", "");
                if (clause.startsWith("-")) {
                    continue;
                }
                if (bare.startsWith("(")) {
                    gather(bare.substring(1, bare.length() - 1), stems);
                } else if (bare.startsWith("\"")) {
                    for (String word : words(bare)) {
                        if (!isStop(word)) {
                            stems.add(stem(word));
                        }
                    }
                } else if (bare.matches("[a-z]+") && !isStop(bare)) {
                    stems.add(stem(bare));
                }
            }
        }

        private static List<String> words(String phrase) {
            List<String> words = new ArrayList<>();
            Matcher matcher = Pattern.compile("[a-z]+").matcher(phrase);
            while (matcher.find()) {
                words.add(matcher.group());
            }
            return words;
        }

        /** The score, or null when the question does not hold. */
        private Float ofQuestion(String question, Document document) {
            boolean hasDue = false;
            boolean allDue = true;
            boolean anyOther = false;
            boolean barred = false;
            float sum = 0.0f;
            for (String clause : clauses(question)) {
                Float score = ofClause(clause.replaceFirst("^[+-]", ""), document);
                if (clause.startsWith("-")) {
                    barred |= score != null;
                    continue;
                }
                if (clause.startsWith("+")) {
                    hasDue = true;
                    allDue &= score != null;
                } else {
                    anyOther |= score != null;
                }
                sum = score == null ? sum : sum + score;
            }
            return !barred && (hasDue ? allDue : anyOther) ? sum : null;
        }

        private Float ofClause(String clause, Document document) {
            if (clause.startsWith("(")) {
                return ofQuestion(clause.substring(1, clause.length() - 1), document);
            }
            if (clause.startsWith("[")) {
                String[] ends = clause.substring(1, clause.length() - 1).split(",");
                boolean isIn = document.value >= Integer.parseInt(ends[0]) && document.value <= Integer.parseInt(ends[1]);
                return document.value >= 0 && isIn ? 1.0f : null;
            }
            if (clause.startsWith("\"")) {
                return ofPhrase(clause, document);
            }
            if (clause.endsWith("*") || clause.endsWith("~")) {
                return ofWide(clause, document);
            }
            int f = document.count(stem(clause));
            return isStop(clause) || f == 0 ? null : rated(weight(stem(clause)), f, document);
        }

        private Float ofWide(String clause, Document document) {
            String word = clause.substring(0, clause.length() - 1);
            List<String> found = new ArrayList<>();
            for (String stem : stemsOf(there)) {
                if (clause.endsWith("*") ? stem.startsWith(word) : distance(stem, stem(word)) <= 1) {
                    found.add(stem);
                }
            }
            for (String stem : found.subList(0, Math.min(8, found.size()))) {
                if (document.has(stem)) {
                    return 1.0f;
                }
            }
            return null;
        }

        private Float ofPhrase(String clause, Document document) {
            List<String> words = words(clause);
            int slop = clause.endsWith("\"") ? 0 : clause.charAt(clause.length() - 1) - '0';
            List<String> stems = new ArrayList<>();
            List<Integer> offsets = new ArrayList<>();
            float weight = 0.0f;
            for (int i = 0; i < words.size(); i++) {
                if (!isStop(words.get(i))) {
                    stems.add(stem(words.get(i)));
                    offsets.add(i);
                    weight = weight + weight(stem(words.get(i)));
                }
            }
            int f = 0;
            for (int place = 0; place < document.places.size() && !stems.isEmpty(); place++) {
                f += document.places.get(place).contains(stems.get(0)) && goesOn(stems, offsets, 1, place, slop, document) ? 1 : 0;
            }
            return f == 0 ? null : rated(weight, f, document);
        }

        /** Tries all places for each word. */
        private static boolean goesOn(List<String> stems, List<Integer> offsets, int word, int place, int slop,
                Document document) {
            if (word == stems.size()) {
                return true;
            }
            for (int p = 0; p < document.places.size(); p++) {
                int moved = p - place - (offsets.get(word) - offsets.get(word - 1));
                if (moved >= 0 && moved <= slop && document.places.get(p).contains(stems.get(word))
                        && goesOn(stems, offsets, word + 1, p, slop - moved, document)) {
                    return true;
                }
            }
            return false;
        }

        private float weight(String stem) {
            int d = 0;
            for (int number : there) {
                d += documents.get(number).has(stem) ? 1 : 0;
            }
            return 1.0f + (float) (there.size() - d) / (float) (d + 1);
        }

        private float rated(float w, int f, Document document) {
            float A = (float) lengthsOf(there) / (float) there.size();
            String bits = Integer.toBinaryString(document.length);
            int l = bits.length() <= 3 ? document.length
                    : Integer.parseInt(bits.substring(0, 3) + "0".repeat(bits.length() - 3), 2);
            return w * ((float) f * 2.2f / ((float) f + 1.2f * (0.25f + 0.75f * (float) l / A)));
        }

        TreeSet<String> stemsOf(Set<Integer> members) {
            TreeSet<String> stems = new TreeSet<>();
            for (int number : members) {
                for (Set<String> place : documents.get(number).places) {
                    stems.addAll(place);
                }
            }
            return stems;
        }

        long lengthsOf(Set<Integer> members) {
            long sum = 0;
            for (int number : members) {
                sum += documents.get(number).length;
            }
            return sum;
        }

        int hit(int rank) {
            if (!isAnswered || rank < 0 || rank >= ranked.size()) {
                throw new IndexOutOfBoundsException();
            }
            return ranked.get(rank);
        }

        int valueOf(int rank) {
            int value = documents.get(hit(rank)).value;
            if (value < 0) {
                throw new NoSuchElementException();
            }
            return value;
        }

        int page(int many) {
            if (many < 1 || many > 20) {
                throw new IllegalArgumentException();
            }
            int before = pageAt();
            next = Math.min(ranked.size(), next + many);
            return next - before;
        }

        int pageAt() {
            if (!isAnswered) {
                throw new IllegalStateException();
            }
            return next;
        }

        int setFilter(int kind) {
            if (kind < -1 || kind > 6) {
                throw new IllegalArgumentException();
            }
            int before = filter;
            filter = kind;
            return before;
        }

        int facet(int kind) {
            if (kind < 0 || kind > 6) {
                throw new IllegalArgumentException();
            }
            if (!isAnswered) {
                throw new IllegalStateException();
            }
            int count = 0;
            for (int number : held) {
                count += documents.get(number).isOf(kind) ? 1 : 0;
            }
            return count;
        }

        int[] passage(int rank) {
            Document document = documents.get(hit(rank));
            if (document.places.isEmpty()) {
                throw new UnsupportedOperationException();
            }
            int[] best = {0, -1};
            for (int from = 0; from < document.places.size(); from++) {
                Set<String> here = new LinkedHashSet<>();
                for (int p = from; p < Math.min(from + 5, document.places.size()); p++) {
                    here.addAll(document.places.get(p));
                }
                here.retainAll(wanted);
                if (here.size() > best[1]) {
                    best = new int[] {from, here.size()};
                }
            }
            return best;
        }

        int suggest() {
            if (!text.matches("[a-z]+")) {
                throw new UnsupportedOperationException();
            }
            String best = null;
            int[] bestRank = null;
            for (String stem : stemsOf(current)) {
                int[] rank = {distance(stem, stem(text)), -frequencyOf(stem, current)};
                if (rank[0] <= 2 && (best == null || Arrays.compare(rank, bestRank) < 0)) {
                    best = stem;
                    bestRank = rank;
                }
            }
            if (best == null) {
                throw new NoSuchElementException();
            }
            suggested = best;
            return best.length();
        }

        char suggestedAt(int index) {
            if (suggested == null || index < 0 || index >= suggested.length()) {
                throw new IndexOutOfBoundsException();
            }
            return suggested.charAt(index);
        }

        private int frequencyOf(String stem, Set<Integer> members) {
            int count = 0;
            for (int number : members) {
                count += documents.get(number).has(stem) ? 1 : 0;
            }
            return count;
        }

        int frequency(int reader) {
            Set<Integer> members = view(reader);
            if (!text.matches("[a-z]+")) {
                throw new UnsupportedOperationException();
            }
            return frequencyOf(stem(text), members);
        }

        float markedShare() {
            int all = 0;
            int live = 0;
            for (List<Integer> segment : segments) {
                all += segment.size();
                live += live(segment).size();
            }
            if (all == 0) {
                throw new ArithmeticException();
            }
            return (float) (all - live) / (float) all;
        }

        double meanSize() {
            int all = 0;
            for (List<Integer> segment : segments) {
                all += segment.size();
            }
            if (segments.isEmpty()) {
                throw new ArithmeticException();
            }
            return (double) all / (double) segments.size();
        }
    }
}
