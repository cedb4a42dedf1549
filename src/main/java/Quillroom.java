import java.util.Arrays;
import java.util.NoSuchElementException;

/** A search engine over documents that change; the promises stand in DOC.md. */
public final class Quillroom {
    private static final int NONE = -1;
    private static final int LAST_COMMIT = -1;
    private static final int MOST_SIGNS = 80;
    private static final int MOST_DOCUMENTS = 60;
    // Two words need a sign between them, so that each takes two of the 80 signs.
    private static final int MOST_WORDS = MOST_SIGNS / 2;
    private static final int MOST_ALIASES = 6;
    private static final int MOST_READERS = 3;
    private static final int MOST_SEGMENTS = MOST_DOCUMENTS;
    private static final int MOST_STEMS = MOST_DOCUMENTS * MOST_WORDS + 2 * MOST_ALIASES;
    private static final int MOST_LETTERS = (MOST_DOCUMENTS + MOST_ALIASES) * MOST_SIGNS;
    // Each clause has a sign of its own, and the whole question is one more.
    private static final int MOST_CLAUSES = MOST_SIGNS + 1;
    private static final int MOST_COME = 20;
    private static final int LAST_KIND = 6;
    private static final int LAST_VALUE = 999;
    private static final int TIERS = 3;
    private static final int MERGED_AT_ONCE = 3;
    private static final int WIDENED_TO = 8;
    private static final int PASSAGE_PLACES = 5;
    private static final int SUGGESTED_WITHIN = 2;
    private static final char NO_SIGN = (char) 0;
    private static final String SIGNS = " \"*~+-[],()";
    // Documents fill the bits 0 to 59, so that no reader's documents are all 64 bits.
    private static final long CLOSED = -1L;

    private static final int GROUP = 0;
    private static final int PHRASE = 1;
    private static final int BEGINNING = 2;
    private static final int NEAR = 3;
    private static final int RANGE = 4;
    private static final int ROOT = 0;

    private final Text draft;
    private final Lexicon lexicon;
    private final Aliases aliases;
    private final Library library;
    private final Index index;
    private final Index fresh;
    private final Log log;
    private final Shelf shelf;
    private final Parser parser;
    private final Finder finder;
    private final Answer answer;
    private final Answer proof;
    private final long[] readers;
    private final int[] passageCounts;
    private Question spare;
    private long current;
    private int filter;
    private int suggestion;

    /** Creates an engine without documents, aliases, readers and a filter, with an empty text. */
    public Quillroom() {
        draft = new Text();
        lexicon = new Lexicon();
        aliases = new Aliases();
        library = new Library();
        index = new Index(lexicon, aliases);
        fresh = new Index(lexicon, aliases);
        log = new Log();
        shelf = new Shelf();
        parser = new Parser();
        finder = new Finder(lexicon, library);
        answer = new Answer();
        proof = new Answer();
        readers = new long[MOST_READERS];
        Arrays.fill(readers, CLOSED);
        passageCounts = new int[MOST_WORDS];
        spare = new Question();
        current = 0L;
        filter = NONE;
        suggestion = NONE;
    }

    public int type(char character) throws IllegalArgumentException, IllegalStateException {
        if (!isSign(character)) {
            throw new IllegalArgumentException("no character of a text");
        }
        if (draft.size() >= MOST_SIGNS) {
            throw new IllegalStateException("the text has 80 characters");
        }
        draft.put(character);
        return draft.size();
    }

    public int erase() {
        int size = draft.size();
        draft.clear();
        return size;
    }

    public int add(int kind, int value) throws IllegalArgumentException, IllegalStateException {
        if (!isKind(kind) || value < NONE || value > LAST_VALUE) {
            throw new IllegalArgumentException("kind or value out of range");
        }
        if (library.size() >= MOST_DOCUMENTS) {
            throw new IllegalStateException("60 documents were added");
        }
        int document = library.keep(draft, kind, value, aliases.size());
        index.enter(document, draft, aliases.size());
        log.writeNew(document);
        draft.clear();
        return document;
    }

    public int delete(int document) throws NoSuchElementException {
        if (!log.isPresent(document)) {
            throw new NoSuchElementException("no such document");
        }
        log.writeGone(document);
        return log.size();
    }

    public int addAlias() throws UnsupportedOperationException, IllegalStateException {
        int blank = draft.endOfWord(0);
        int end = draft.size();
        if (!areTwoWords(draft, blank) || draft.isStop(0, blank) || draft.isStop(blank + 1, end)) {
            throw new UnsupportedOperationException("the text is not two words for an alias");
        }
        int firstEnd = draft.endOfStem(0, blank);
        int secondEnd = draft.endOfStem(blank + 1, end);
        if (draft.isSameRow(0, firstEnd, blank + 1, secondEnd)) {
            throw new UnsupportedOperationException("both have one stem");
        }
        int stem = lexicon.find(draft, 0, firstEnd);
        int other = lexicon.find(draft, blank + 1, secondEnd);
        if (aliases.size() >= MOST_ALIASES || aliases.areLinked(aliases.size(), stem, other)) {
            throw new IllegalStateException("6 aliases, or this one is there");
        }
        aliases.link(lexicon.enter(draft, 0, firstEnd), lexicon.enter(draft, blank + 1, secondEnd));
        draft.clear();
        return aliases.size();
    }

    public int commit() {
        long added = log.newOnes();
        long deleted = log.goneOnes();
        shelf.take(added & ~deleted, deleted & ~added);
        current = (current | added) & ~deleted;
        log.clear();
        return shelf.size();
    }

    public int sync() {
        log.secure();
        return log.size();
    }

    public int crash() {
        Arrays.fill(readers, CLOSED);
        return log.lose();
    }

    public int waiting() {
        return log.size();
    }

    public int segments() {
        return shelf.size();
    }

    public int sizeOf(int segment) throws IndexOutOfBoundsException {
        if (!shelf.has(segment)) {
            throw new IndexOutOfBoundsException("no such segment");
        }
        return Long.bitCount(shelf.rowAt(segment));
    }

    public int liveIn(int segment) throws IndexOutOfBoundsException {
        if (!shelf.has(segment)) {
            throw new IndexOutOfBoundsException("no such segment");
        }
        return Long.bitCount(shelf.unmarkedOf(shelf.rowAt(segment)));
    }

    public int documentAt(int segment, int place) throws IndexOutOfBoundsException {
        if (!shelf.has(segment)) {
            throw new IndexOutOfBoundsException("no such segment");
        }
        int document = memberAt(shelf.rowAt(segment), place);
        if (document == NONE) {
            throw new IndexOutOfBoundsException("no such place");
        }
        return document;
    }

    public int merges() {
        return shelf.merged();
    }

    public int openReader() throws IllegalStateException {
        int free = freeReader();
        if (free < 0 || free >= readers.length) {
            throw new IllegalStateException("there are 3 readers");
        }
        readers[free] = current;
        return free;
    }

    public int closeReader(int reader) throws NoSuchElementException {
        if (reader < 0 || reader >= readers.length || readers[reader] == CLOSED) {
            throw new NoSuchElementException("no such reader");
        }
        readers[reader] = CLOSED;
        return openReaders();
    }

    public int documents(int reader) throws NoSuchElementException {
        long there = viewOf(reader);
        if (there == CLOSED) {
            throw new NoSuchElementException("no such reader");
        }
        return Long.bitCount(there);
    }

    public int fault() throws NoSuchElementException {
        int place = parser.read(draft, spare);
        if (place == NONE) {
            throw new NoSuchElementException("the text is a question");
        }
        return place;
    }

    public int ask(int reader, char order) throws NoSuchElementException, IllegalArgumentException,
            UnsupportedOperationException {
        long there = viewOf(reader);
        if (there == CLOSED) {
            throw new NoSuchElementException("no such reader");
        }
        if (order != 's' && order != 'u' && order != 'd') {
            throw new IllegalArgumentException("no such order");
        }
        if (parser.read(draft, spare) != NONE) {
            throw new UnsupportedOperationException("the text is no question");
        }
        spare.resolve(lexicon);
        // The question of the answer ahead becomes the spare one, so that no new one is made.
        Question before = answer.question();
        answer.begin(spare, there, order, filter);
        spare = before;
        answer.seek(finder, index, library);
        return answer.size();
    }

    public int hit(int rank) throws IndexOutOfBoundsException {
        if (!answer.has(rank)) {
            throw new IndexOutOfBoundsException("no such rank");
        }
        return answer.rankedAt(rank);
    }

    public int scoreBits(int rank) throws IndexOutOfBoundsException {
        if (!answer.has(rank)) {
            throw new IndexOutOfBoundsException("no such rank");
        }
        return bitsOf(answer.scoreOf(answer.rankedAt(rank)));
    }

    public int valueOf(int rank) throws IndexOutOfBoundsException, NoSuchElementException {
        if (!answer.has(rank)) {
            throw new IndexOutOfBoundsException("no such rank");
        }
        int value = library.value(answer.rankedAt(rank));
        if (value == NONE) {
            throw new NoSuchElementException("the document has no value");
        }
        return value;
    }

    public int page(int many) throws IllegalArgumentException, IllegalStateException {
        if (many < 1 || many > MOST_COME) {
            throw new IllegalArgumentException("1 to 20 documents come");
        }
        if (!answer.isThere()) {
            throw new IllegalStateException("there is no answer");
        }
        return answer.goOn(many);
    }

    public int pageAt() throws IllegalStateException {
        if (!answer.isThere()) {
            throw new IllegalStateException("there is no answer");
        }
        return answer.next();
    }

    public int setFilter(int kind) throws IllegalArgumentException {
        if (kind != NONE && !isKind(kind)) {
            throw new IllegalArgumentException("no such kind");
        }
        int before = filter;
        filter = kind;
        return before;
    }

    public int facet(int kind) throws IllegalArgumentException, IllegalStateException {
        if (!isKind(kind)) {
            throw new IllegalArgumentException("no such kind");
        }
        if (!answer.isThere()) {
            throw new IllegalStateException("there is no answer");
        }
        return Long.bitCount(library.ofKind(answer.held(), kind));
    }

    public int passage(int rank) throws IndexOutOfBoundsException, UnsupportedOperationException {
        if (!answer.has(rank)) {
            throw new IndexOutOfBoundsException("no such rank");
        }
        int document = answer.rankedAt(rank);
        if (index.wordsOf(document) == 0) {
            throw new UnsupportedOperationException("the document has no words");
        }
        return bestPassage(document);
    }

    public int passageStems(int rank) throws IndexOutOfBoundsException, UnsupportedOperationException {
        if (!answer.has(rank)) {
            throw new IndexOutOfBoundsException("no such rank");
        }
        int document = answer.rankedAt(rank);
        if (index.wordsOf(document) == 0) {
            throw new UnsupportedOperationException("the document has no words");
        }
        return cell(passageCounts, bestPassage(document));
    }

    public int suggest() throws UnsupportedOperationException, NoSuchElementException {
        if (!isOneWord(draft)) {
            throw new UnsupportedOperationException("the text is not one word");
        }
        int best = nearestStem(draft.endOfStem(0, draft.size()));
        if (best == NONE) {
            throw new NoSuchElementException("no stem is near");
        }
        suggestion = best;
        return lexicon.lettersOf(best);
    }

    public char suggestedAt(int index) throws IndexOutOfBoundsException {
        if (suggestion == NONE || index < 0 || index >= lexicon.lettersOf(suggestion)) {
            throw new IndexOutOfBoundsException("no such character was suggested");
        }
        return lexicon.letter(suggestion, index);
    }

    public int frequency(int reader) throws NoSuchElementException, UnsupportedOperationException {
        long there = viewOf(reader);
        if (there == CLOSED) {
            throw new NoSuchElementException("no such reader");
        }
        if (!isOneWord(draft)) {
            throw new UnsupportedOperationException("the text is not one word");
        }
        int stem = lexicon.find(draft, 0, draft.endOfStem(0, draft.size()));
        return Long.bitCount(index.homesOf(stem) & there);
    }

    public int stems() {
        int count = 0;
        for (int stem = 0; stem < lexicon.size(); stem++) {
            if ((index.homesOf(stem) & current) != 0L) {
                count++;
            }
        }
        return count;
    }

    public long lengths() {
        return index.lengthOfAll(current);
    }

    public float markedShare() throws ArithmeticException {
        int all = Long.bitCount(shelf.everyone());
        if (all == 0) {
            throw new ArithmeticException("no documents in segments");
        }
        int unmarked = Long.bitCount(shelf.unmarkedOf(shelf.everyone()));
        return (float) (all - unmarked) / (float) all;
    }

    public double meanSize() throws ArithmeticException {
        int count = shelf.size();
        if (count == 0) {
            throw new ArithmeticException("no segments");
        }
        return (double) shelf.places() / (double) count;
    }

    public boolean isSound() {
        if (!shelf.holdsOnceEach(current)) {
            return false;
        }
        if (!answer.isThere()) {
            return true;
        }
        readAnew(answer.view());
        proof.begin(answer.question(), answer.view(), answer.order(), answer.filter());
        proof.seek(finder, fresh, library);
        return proof.isSameAs(answer);
    }

    private void readAnew(long members) {
        fresh.clear();
        for (int document = 0; document < library.size(); document++) {
            if (isIn(members, document)) {
                fresh.enter(document, library.text(document), library.aliasesKnown(document));
            }
        }
    }

    private int freeReader() {
        for (int reader = 0; reader < readers.length; reader++) {
            if (readers[reader] == CLOSED) {
                return reader;
            }
        }
        return NONE;
    }

    private int openReaders() {
        int count = 0;
        for (int reader = 0; reader < readers.length; reader++) {
            if (readers[reader] != CLOSED) {
                count++;
            }
        }
        return count;
    }

    private long viewOf(int reader) {
        if (reader == LAST_COMMIT) {
            return current;
        }
        return reader >= 0 && reader < readers.length ? readers[reader] : CLOSED;
    }

    private int bestPassage(int document) {
        countPassages(document);
        int best = 0;
        for (int place = 1; place < index.wordsOf(document); place++) {
            if (cell(passageCounts, place) > cell(passageCounts, best)) {
                best = place;
            }
        }
        return best;
    }

    /** Counts for each place how many stems of the question the passage from it on has. */
    private void countPassages(int document) {
        Arrays.fill(passageCounts, 0);
        for (int i = 0; i < answer.question().wantedSize(); i++) {
            long places = index.placesOf(document, answer.question().wantedAt(i));
            long begins = 0L;
            for (int ahead = 0; ahead < PASSAGE_PLACES; ahead++) {
                begins = begins | places >>> ahead;
            }
            for (int place = 0; place < MOST_WORDS; place++) {
                if ((begins >>> place & 1L) != 0L) {
                    setCell(passageCounts, place, cell(passageCounts, place) + 1);
                }
            }
        }
    }

    private int nearestStem(int end) {
        int best = NONE;
        int least = SUGGESTED_WITHIN + 1;
        int most = 0;
        for (int rank = 0; rank < lexicon.size(); rank++) {
            int stem = lexicon.stemAt(rank);
            int homes = Long.bitCount(index.homesOf(stem) & current);
            if (homes > 0) {
                int distance = lexicon.distance(stem, draft, 0, end);
                if (distance < least || distance == least && best != NONE && homes > most) {
                    best = stem;
                    least = distance;
                    most = homes;
                }
            }
        }
        return best;
    }

    private static boolean isSign(char character) {
        return character >= 'a' && character <= 'z' || character >= '0' && character <= '9'
                || SIGNS.indexOf(character) >= 0;
    }

    private static boolean isKind(int kind) {
        return kind >= 0 && kind <= LAST_KIND;
    }

    private static boolean isOneWord(Text text) {
        return text.size() > 0 && text.endOfWord(0) == text.size();
    }

    private static boolean areTwoWords(Text text, int blank) {
        return blank > 0 && text.signAt(blank) == ' ' && text.isLetterAt(blank + 1)
                && text.endOfWord(blank + 1) == text.size();
    }

    private static boolean isIn(long members, int document) {
        return document >= 0 && document < MOST_DOCUMENTS && (members >>> document & 1L) != 0L;
    }

    private static long only(int document) {
        return document >= 0 && document < MOST_DOCUMENTS ? 1L << document : 0L;
    }

    private static int memberAt(long members, int place) {
        int ahead = 0;
        for (int document = 0; document < MOST_DOCUMENTS; document++) {
            if (isIn(members, document)) {
                if (ahead == place) {
                    return document;
                }
                ahead++;
            }
        }
        return NONE;
    }

    private static int cell(int[] row, int place) {
        return place >= 0 && place < row.length ? row[place] : NONE;
    }

    private static void setCell(int[] row, int place, int number) {
        if (place >= 0 && place < row.length) {
            row[place] = number;
        }
    }

    // The library's own function for this is not among the ones that the program may use. All steps
    // are exact, as only the exponent of the score changes.
    private static int bitsOf(float score) {
        if (!(score > 0.0f)) {
            return 0;
        }
        float part = score;
        int exponent = 127;
        for (int i = 0; i < 256 && part >= 2.0f; i++) {
            part = part / 2.0f;
            exponent++;
        }
        for (int i = 0; i < 256 && part < 1.0f; i++) {
            part = part * 2.0f;
            exponent--;
        }
        return (exponent << 23) + (int) ((part - 1.0f) * 8388608.0f);
    }

    /** A text as it is typed; beyond its end it has signs that no text has. */
    private static final class Text {
        private final char[] signs;
        private int size;

        Text() {
            signs = new char[MOST_SIGNS];
            size = 0;
        }

        int size() {
            return size;
        }

        void clear() {
            size = 0;
        }

        void put(char sign) {
            if (size >= 0 && size < signs.length) {
                signs[size] = sign;
                size++;
            }
        }

        void copyOf(Text other) {
            clear();
            for (int place = 0; place < other.size(); place++) {
                put(other.signAt(place));
            }
        }

        char signAt(int place) {
            return place >= 0 && place < size && place < signs.length ? signs[place] : NO_SIGN;
        }

        boolean isLetterAt(int place) {
            char sign = signAt(place);
            return sign >= 'a' && sign <= 'z';
        }

        boolean isDigitAt(int place) {
            char sign = signAt(place);
            return sign >= '0' && sign <= '9';
        }

        boolean isWordBegunAt(int place) {
            return isLetterAt(place) && !isLetterAt(place - 1);
        }

        int endOfWord(int from) {
            for (int place = from; place < size; place++) {
                if (!isLetterAt(place)) {
                    return place;
                }
            }
            return size;
        }

        /** A stem is always how its word begins. */
        int endOfStem(int from, int end) {
            int letters = end - from;
            if (letters >= 6 && hasAt(end - 3, "ing")) {
                return end - 3;
            }
            if (letters >= 5 && hasAt(end - 2, "ed")) {
                return end - 2;
            }
            return letters >= 4 && hasAt(end - 1, "s") ? end - 1 : end;
        }

        private boolean hasAt(int from, String part) {
            for (int i = 0; i < part.length(); i++) {
                if (signAt(from + i) != part.charAt(i)) {
                    return false;
                }
            }
            return true;
        }

        boolean isStop(int from, int end) {
            switch (end - from) {
                case 1:
                    return hasAt(from, "a");
                case 2:
                    return hasAt(from, "of") || hasAt(from, "to");
                case 3:
                    return hasAt(from, "the");
                default:
                    return false;
            }
        }

        boolean isSameRow(int from, int end, int otherFrom, int otherEnd) {
            if (end - from != otherEnd - otherFrom) {
                return false;
            }
            for (int i = 0; i < end - from; i++) {
                if (signAt(from + i) != signAt(otherFrom + i)) {
                    return false;
                }
            }
            return true;
        }

        int numberOf(int from, int end) {
            int number = 0;
            for (int place = from; place < end; place++) {
                if (isDigitAt(place)) {
                    number = 10 * number + (signAt(place) - '0');
                }
            }
            return number;
        }
    }

    /** All stems that were ever met, each with a number of its own, and their order. */
    private static final class Lexicon {
        private final char[] letters;
        private final int[] starts;
        private final int[] ends;
        private final int[] ordered;
        private final int[] steps;
        private int count;
        private int used;

        Lexicon() {
            letters = new char[MOST_LETTERS];
            starts = new int[MOST_STEMS];
            ends = new int[MOST_STEMS];
            ordered = new int[MOST_STEMS];
            steps = new int[MOST_SIGNS + 1];
            count = 0;
            used = 0;
        }

        int size() {
            return count;
        }

        int stemAt(int rank) {
            return rank < count ? cell(ordered, rank) : NONE;
        }

        int lettersOf(int stem) {
            boolean isKnown = stem >= 0 && stem < starts.length && stem < ends.length;
            return isKnown ? ends[stem] - starts[stem] : 0;
        }

        char letter(int stem, int place) {
            if (stem < 0 || stem >= starts.length || stem >= ends.length || place < 0) {
                return NO_SIGN;
            }
            int at = starts[stem] + place;
            return at >= 0 && at < letters.length && at < ends[stem] ? letters[at] : NO_SIGN;
        }

        int find(Text text, int from, int end) {
            int stem = stemAt(rankOf(text, from, end));
            return stem != NONE && compare(stem, text, from, end) == 0 ? stem : NONE;
        }

        int enter(Text text, int from, int end) {
            int rank = rankOf(text, from, end);
            int known = stemAt(rank);
            if (known != NONE && compare(known, text, from, end) == 0) {
                return known;
            }
            int stem = count;
            if (stem >= MOST_STEMS) {
                return NONE;
            }
            setCell(starts, stem, used);
            for (int place = from; place < end && used < letters.length; place++) {
                letters[used] = text.signAt(place);
                used++;
            }
            setCell(ends, stem, used);
            for (int i = count; i > rank; i--) {
                setCell(ordered, i, cell(ordered, i - 1));
            }
            setCell(ordered, rank, stem);
            count++;
            return stem;
        }

        private int rankOf(Text text, int from, int end) {
            for (int rank = 0; rank < count; rank++) {
                if (compare(stemAt(rank), text, from, end) >= 0) {
                    return rank;
                }
            }
            return count;
        }

        private int compare(int stem, Text text, int from, int end) {
            int size = lettersOf(stem);
            for (int i = 0; i < size && from + i < end; i++) {
                int difference = letter(stem, i) - text.signAt(from + i);
                if (difference != 0) {
                    return difference;
                }
            }
            return size - (end - from);
        }

        boolean begins(int stem, Text text, int from, int end) {
            if (end - from > lettersOf(stem)) {
                return false;
            }
            for (int i = 0; from + i < end; i++) {
                if (letter(stem, i) != text.signAt(from + i)) {
                    return false;
                }
            }
            return true;
        }

        /** The least number of letters put in, left out and changed. */
        int distance(int stem, Text text, int from, int end) {
            for (int j = 0; j <= end - from; j++) {
                setCell(steps, j, j);
            }
            for (int i = 1; i <= lettersOf(stem); i++) {
                int corner = cell(steps, 0);
                setCell(steps, 0, i);
                for (int j = 1; j <= end - from; j++) {
                    int above = cell(steps, j);
                    boolean same = letter(stem, i - 1) == text.signAt(from + j - 1);
                    int beside = Math.min(above, cell(steps, j - 1)) + 1;
                    setCell(steps, j, Math.min(beside, same ? corner : corner + 1));
                    corner = above;
                }
            }
            return cell(steps, end - from);
        }
    }

    /** The aliases, which only grow: the first so many are those that a document knows. */
    private static final class Aliases {
        private final int[] heads;
        private final int[] others;
        private int count;

        Aliases() {
            heads = new int[MOST_ALIASES];
            others = new int[MOST_ALIASES];
            count = 0;
        }

        int size() {
            return count;
        }

        int headAt(int place) {
            return cell(heads, place);
        }

        int otherAt(int place) {
            return cell(others, place);
        }

        void link(int head, int other) {
            if (count < MOST_ALIASES) {
                setCell(heads, count, head);
                setCell(others, count, other);
                count++;
            }
        }

        boolean areLinked(int known, int head, int other) {
            if (head == NONE || other == NONE) {
                return false;
            }
            for (int i = 0; i < known && i < count && i < heads.length && i < others.length; i++) {
                if (heads[i] == head && others[i] == other) {
                    return true;
                }
            }
            return false;
        }
    }

    /** The documents as they were added. */
    private static final class Library {
        private final Text[] texts;
        private final int[] kinds;
        private final int[] values;
        private final int[] known;
        private final Text empty;
        private int count;

        Library() {
            texts = new Text[MOST_DOCUMENTS];
            kinds = new int[MOST_DOCUMENTS];
            values = new int[MOST_DOCUMENTS];
            known = new int[MOST_DOCUMENTS];
            empty = new Text();
            count = 0;
        }

        int size() {
            return count;
        }

        int keep(Text text, int kind, int value, int aliasesKnown) {
            int document = count;
            if (document < 0 || document >= texts.length) {
                return NONE;
            }
            Text copy = new Text();
            copy.copyOf(text);
            texts[document] = copy;
            setCell(kinds, document, kind);
            setCell(values, document, value);
            setCell(known, document, aliasesKnown);
            count++;
            return document;
        }

        Text text(int document) {
            if (document < 0 || document >= texts.length) {
                return empty;
            }
            Text text = texts[document];
            return text == null ? empty : text;
        }

        int value(int document) {
            return cell(values, document);
        }

        int aliasesKnown(int document) {
            return cell(known, document);
        }

        long ofKind(long members, int kind) {
            long found = 0L;
            for (int document = 0; document < count; document++) {
                if (isIn(members, document) && isBelow(cell(kinds, document), kind)) {
                    found = found | only(document);
                }
            }
            return found;
        }

        private static boolean isBelow(int kind, int above) {
            int reached = kind;
            // No kind is more than two below the kind 0.
            for (int i = 0; i < 2 && reached > above; i++) {
                reached = (reached - 1) / 2;
            }
            return reached == above;
        }
    }

    /** Which stems stand at which places of documents, found from their texts. */
    private static final class Index {
        private final Lexicon lexicon;
        private final Aliases aliases;
        private final int[][] rows;
        private final int[] words;
        private final int[] counted;
        private final int[] known;
        private final long[] homes;

        Index(Lexicon lexicon, Aliases aliases) {
            this.lexicon = lexicon;
            this.aliases = aliases;
            rows = new int[MOST_DOCUMENTS][MOST_WORDS];
            words = new int[MOST_DOCUMENTS];
            counted = new int[MOST_DOCUMENTS];
            known = new int[MOST_DOCUMENTS];
            homes = new long[MOST_STEMS];
        }

        void clear() {
            Arrays.fill(words, 0);
            Arrays.fill(counted, 0);
            Arrays.fill(known, 0);
            Arrays.fill(homes, 0L);
        }

        void enter(int document, Text text, int aliasesKnown) {
            if (document < 0 || document >= rows.length) {
                return;
            }
            int[] row = rows[document];
            int place = 0;
            int length = 0;
            for (int at = 0; row != null && at < text.size(); at++) {
                if (text.isWordBegunAt(at)) {
                    int end = text.endOfWord(at);
                    int stem = NONE;
                    if (!text.isStop(at, end)) {
                        stem = lexicon.enter(text, at, text.endOfStem(at, end));
                        settle(document, stem, aliasesKnown);
                        length++;
                    }
                    setCell(row, place, stem);
                    place++;
                }
            }
            setCell(words, document, place);
            setCell(counted, document, length);
            setCell(known, document, aliasesKnown);
        }

        private void settle(int document, int stem, int aliasesKnown) {
            addHome(stem, document);
            for (int i = 0; i < aliasesKnown; i++) {
                if (aliases.headAt(i) == stem) {
                    addHome(aliases.otherAt(i), document);
                }
            }
        }

        private void addHome(int stem, int document) {
            if (stem >= 0 && stem < homes.length) {
                homes[stem] = homes[stem] | only(document);
            }
        }

        long homesOf(int stem) {
            return stem >= 0 && stem < homes.length ? homes[stem] : 0L;
        }

        int wordsOf(int document) {
            return document >= 0 ? Math.max(0, cell(words, document)) : 0;
        }

        int lengthOf(int document) {
            return Math.max(0, cell(counted, document));
        }

        long lengthOfAll(long members) {
            long sum = 0L;
            for (int document = 0; document < MOST_DOCUMENTS; document++) {
                if (isIn(members, document)) {
                    sum += lengthOf(document);
                }
            }
            return sum;
        }

        /** The places of a document at which a stem stands, as bits: a text has fewer than 64 words. */
        long placesOf(int document, int stem) {
            if (stem == NONE || document < 0 || document >= rows.length || document >= words.length
                    || document >= known.length || rows[document] == null) {
                return 0L;
            }
            int[] row = rows[document];
            long places = 0L;
            for (int place = 0; place < words[document] && place < row.length; place++) {
                if (row[place] == stem || aliases.areLinked(known[document], row[place], stem)) {
                    places = places | 1L << place;
                }
            }
            return places;
        }
    }

    /** The writes that wait, in their order: the first ones of them are safe. */
    private static final class Log {
        // A document waits at most once as a new one and once as a deleted one.
        private final int[] written;
        private final boolean[] isGone;
        private int count;
        private int safe;
        private long present;

        Log() {
            written = new int[2 * MOST_DOCUMENTS];
            isGone = new boolean[2 * MOST_DOCUMENTS];
            count = 0;
            safe = 0;
            present = 0L;
        }

        int size() {
            return count;
        }

        boolean isPresent(int document) {
            return isIn(present, document);
        }

        void writeNew(int document) {
            write(document, false);
            present = present | only(document);
        }

        void writeGone(int document) {
            write(document, true);
            present = present & ~only(document);
        }

        private void write(int document, boolean gone) {
            if (count >= 0 && count < written.length && count < isGone.length) {
                written[count] = document;
                isGone[count] = gone;
                count++;
            }
        }

        long newOnes() {
            return writtenAs(false);
        }

        long goneOnes() {
            return writtenAs(true);
        }

        private long writtenAs(boolean gone) {
            long members = 0L;
            for (int i = 0; i < count && i < written.length && i < isGone.length; i++) {
                if (isGone[i] == gone) {
                    members = members | only(written[i]);
                }
            }
            return members;
        }

        void clear() {
            count = 0;
            safe = 0;
        }

        void secure() {
            safe = count;
        }

        /** Backwards, so that a document that came and went unsafe is not there in the end. */
        int lose() {
            int lost = count - safe;
            for (int i = Math.min(count, Math.min(written.length, isGone.length)) - 1; i >= safe && i >= 0; i--) {
                long one = only(written[i]);
                present = isGone[i] ? present | one : present & ~one;
            }
            count = safe;
            return lost;
        }
    }

    /** The segments: each one's documents stand by rising numbers, so that a row of bits tells them. */
    private static final class Shelf {
        private final long[] rows;
        private int count;
        private int merged;
        private long marked;

        Shelf() {
            rows = new long[MOST_SEGMENTS];
            count = 0;
            merged = 0;
            marked = 0L;
        }

        int size() {
            return count;
        }

        int merged() {
            return merged;
        }

        boolean has(int segment) {
            return segment >= 0 && segment < count;
        }

        long rowAt(int segment) {
            return segment >= 0 && segment < count && segment < rows.length ? rows[segment] : 0L;
        }

        long unmarkedOf(long row) {
            return row & ~marked;
        }

        long everyone() {
            long members = 0L;
            for (int i = 0; i < count; i++) {
                members = members | rowAt(i);
            }
            return members;
        }

        int places() {
            int sum = 0;
            for (int i = 0; i < count; i++) {
                sum += Long.bitCount(rowAt(i));
            }
            return sum;
        }

        boolean holdsOnceEach(long members) {
            long once = 0L;
            for (int i = 0; i < count; i++) {
                long row = unmarkedOf(rowAt(i));
                if ((once & row & members) != 0L) {
                    return false;
                }
                once = once | row;
            }
            return (members & ~once) == 0L;
        }

        void take(long added, long deleted) {
            marked = marked | deleted;
            if (added != 0L && count >= 0 && count < rows.length) {
                rows[count] = added;
                count++;
            }
            dropMarked();
            int tier = crowdedTier();
            // Each merge leaves two segments less.
            for (int i = 0; i < MOST_SEGMENTS && tier != NONE; i++) {
                merge(tier);
                dropMarked();
                tier = crowdedTier();
            }
        }

        private void setRow(int segment, long row) {
            if (segment >= 0 && segment < rows.length) {
                rows[segment] = row;
            }
        }

        private void dropMarked() {
            int kept = 0;
            for (int i = 0; i < count; i++) {
                if (unmarkedOf(rowAt(i)) != 0L) {
                    setRow(kept, rowAt(i));
                    kept++;
                }
            }
            count = kept;
        }

        private int crowdedTier() {
            for (int tier = 0; tier < TIERS; tier++) {
                int found = 0;
                for (int i = 0; i < count; i++) {
                    if (tierOf(rowAt(i)) == tier) {
                        found++;
                    }
                }
                if (found >= MERGED_AT_ONCE) {
                    return tier;
                }
            }
            return NONE;
        }

        private void merge(int tier) {
            long together = 0L;
            int taken = 0;
            int first = NONE;
            int kept = 0;
            for (int i = 0; i < count; i++) {
                long row = rowAt(i);
                boolean isTaken = taken < MERGED_AT_ONCE && tierOf(row) == tier;
                if (isTaken) {
                    together = together | unmarkedOf(row);
                    taken++;
                }
                if (isTaken && first == NONE) {
                    first = kept;
                    kept++;
                } else if (!isTaken) {
                    setRow(kept, row);
                    kept++;
                }
            }
            setRow(first, together);
            count = kept;
            merged++;
        }

        private static int tierOf(long row) {
            int size = Long.bitCount(row);
            if (size <= 2) {
                return 0;
            }
            return size <= 6 ? 1 : 2;
        }
    }

    /**
     * A question as a row of clauses, each behind the one in whose brackets it stands. A word is
     * kept as a phrase of one word: it holds as often, with the same weight.
     */
    private static final class Question {
        private final Text text;
        private final int[] kinds;
        private final char[] signs;
        private final int[] parents;
        private final int[] froms;
        private final int[] ends;
        private final int[] slops;
        private int size;
        private final int[] wordFroms;
        private final int[] wordEnds;
        private final int[] offsets;
        private final int[] row;
        private int rowSize;
        private final int[] wanted;
        private int wantedSize;

        Question() {
            text = new Text();
            kinds = new int[MOST_CLAUSES];
            signs = new char[MOST_CLAUSES];
            parents = new int[MOST_CLAUSES];
            froms = new int[MOST_CLAUSES];
            ends = new int[MOST_CLAUSES];
            slops = new int[MOST_CLAUSES];
            size = 0;
            wordFroms = new int[MOST_WORDS];
            wordEnds = new int[MOST_WORDS];
            offsets = new int[MOST_WORDS];
            row = new int[MOST_WORDS];
            rowSize = 0;
            wanted = new int[MOST_WORDS];
            wantedSize = 0;
        }

        void start(Text asked) {
            text.copyOf(asked);
            size = 0;
            rowSize = 0;
            wantedSize = 0;
            open(NONE, NO_SIGN);
        }

        /** Begins a clause, a question in brackets as long as nothing else is told. */
        void open(int parent, char sign) {
            if (size >= 0 && size < signs.length) {
                signs[size] = sign;
                setCell(parents, size, parent);
                size++;
                shape(GROUP, 0, 0);
            }
        }

        void shape(int kind, int from, int end) {
            setCell(kinds, size - 1, kind);
            setCell(froms, size - 1, from);
            setCell(ends, size - 1, end);
            setCell(slops, size - 1, 0);
        }

        void setSlop(int slop) {
            setCell(slops, size - 1, slop);
        }

        void addWord(int from, int end, int offset) {
            if (rowSize < MOST_WORDS) {
                setCell(wordFroms, rowSize, from);
                setCell(wordEnds, rowSize, end);
                setCell(offsets, rowSize, offset);
                rowSize++;
                setCell(ends, size - 1, rowSize);
            }
        }

        /** Finds the stems of the words; one that no document ever had is NONE. */
        void resolve(Lexicon lexicon) {
            wantedSize = 0;
            for (int clause = 0; clause < size; clause++) {
                boolean isWanted = kindOf(clause) == PHRASE && !isUnwanted(clause);
                for (int i = fromOf(clause); kindOf(clause) == PHRASE && i < endOf(clause); i++) {
                    int stem = lexicon.find(text, cell(wordFroms, i), cell(wordEnds, i));
                    setCell(row, i, stem);
                    if (isWanted && stem != NONE && !isAmongWanted(stem)) {
                        setCell(wanted, wantedSize, stem);
                        wantedSize++;
                    }
                }
            }
        }

        private boolean isAmongWanted(int stem) {
            for (int i = 0; i < wantedSize; i++) {
                if (wantedAt(i) == stem) {
                    return true;
                }
            }
            return false;
        }

        private boolean isUnwanted(int clause) {
            int above = clause;
            for (int i = 0; i < MOST_CLAUSES && above != NONE; i++) {
                if (signOf(above) == '-') {
                    return true;
                }
                above = parentOf(above);
            }
            return false;
        }

        boolean isBare(int group) {
            for (int clause = group + 1; clause < size; clause++) {
                if (parentOf(clause) == group) {
                    return false;
                }
            }
            return true;
        }

        Text text() {
            return text;
        }

        int size() {
            return size;
        }

        int rowSize() {
            return rowSize;
        }

        int kindOf(int clause) {
            return cell(kinds, clause);
        }

        char signOf(int clause) {
            return clause >= 0 && clause < signs.length ? signs[clause] : NO_SIGN;
        }

        int parentOf(int clause) {
            return cell(parents, clause);
        }

        int fromOf(int clause) {
            return cell(froms, clause);
        }

        int endOf(int clause) {
            return cell(ends, clause);
        }

        int slopOf(int clause) {
            return cell(slops, clause);
        }

        int wordAt(int place) {
            return cell(row, place);
        }

        int offsetAt(int place) {
            return cell(offsets, place);
        }

        int wantedSize() {
            return wantedSize;
        }

        int wantedAt(int place) {
            return cell(wanted, place);
        }
    }

    /**
     * Reads a text as a question. The functions that read a part tell the place behind it, or, when
     * it has a fault, -1 less the place of the fault.
     */
    private static final class Parser {
        /** Tells the place of the fault, or NONE when the text is a question. */
        int read(Text text, Question question) {
            question.start(text);
            int open = ROOT;
            boolean mayBegin = true;
            int at = 0;
            for (int i = 0; i <= MOST_SIGNS && at < text.size(); i++) {
                char sign = text.signAt(at);
                if (sign == ' ') {
                    mayBegin = true;
                    at++;
                } else if (sign == ')') {
                    if (open == ROOT || question.isBare(open)) {
                        return at;
                    }
                    open = question.parentOf(open);
                    mayBegin = false;
                    at++;
                } else {
                    int behind = mayBegin ? readClause(text, question, open, at) : faultAt(at);
                    if (behind < 0) {
                        return -1 - behind;
                    }
                    int last = question.size() - 1;
                    mayBegin = question.kindOf(last) == GROUP;
                    open = mayBegin ? last : open;
                    at = behind;
                }
            }
            return open == ROOT && !question.isBare(ROOT) ? NONE : text.size();
        }

        private static int faultAt(int place) {
            return -1 - place;
        }

        private int readClause(Text text, Question question, int open, int at) {
            char sign = text.signAt(at);
            boolean isSigned = sign == '+' || sign == '-';
            int start = isSigned ? at + 1 : at;
            question.open(open, isSigned ? sign : NO_SIGN);
            switch (text.signAt(start)) {
                case '(':
                    return start + 1;
                case '"':
                    return readPhrase(text, question, start + 1);
                case '[':
                    return readRange(text, question, start + 1);
                default:
                    return text.isLetterAt(start) ? readWord(text, question, start) : faultAt(start);
            }
        }

        private int readWord(Text text, Question question, int from) {
            int end = text.endOfWord(from);
            switch (text.signAt(end)) {
                case '*':
                    question.shape(BEGINNING, from, end);
                    return end + 1;
                case '~':
                    question.shape(NEAR, from, text.endOfStem(from, end));
                    return end + 1;
                default:
                    question.shape(PHRASE, question.rowSize(), question.rowSize());
                    takeWord(text, question, from, end, 0);
                    return end;
            }
        }

        private void takeWord(Text text, Question question, int from, int end, int offset) {
            if (!text.isStop(from, end)) {
                question.addWord(from, text.endOfStem(from, end), offset);
            }
        }

        private int readPhrase(Text text, Question question, int from) {
            question.shape(PHRASE, question.rowSize(), question.rowSize());
            int offset = 0;
            int at = from;
            for (int i = 0; i <= MOST_SIGNS && at < text.size() && text.signAt(at) != '"'; i++) {
                if (text.isLetterAt(at)) {
                    int end = text.endOfWord(at);
                    takeWord(text, question, at, end, offset);
                    offset++;
                    at = end;
                } else if (text.signAt(at) == ' ') {
                    at++;
                } else {
                    return faultAt(at);
                }
            }
            if (at >= text.size() || offset == 0) {
                return faultAt(at);
            }
            return readSlop(text, question, at + 1);
        }

        private int readSlop(Text text, Question question, int at) {
            if (text.signAt(at) != '~') {
                return at;
            }
            if (!text.isDigitAt(at + 1)) {
                return faultAt(at + 1);
            }
            question.setSlop(text.numberOf(at + 1, at + 2));
            return at + 2;
        }

        private int readRange(Text text, Question question, int from) {
            int comma = endOfNumber(text, from);
            if (comma == from || text.signAt(comma) != ',') {
                return faultAt(comma);
            }
            int end = endOfNumber(text, comma + 1);
            if (end == comma + 1 || text.signAt(end) != ']') {
                return faultAt(end);
            }
            question.shape(RANGE, text.numberOf(from, comma), text.numberOf(comma + 1, end));
            return end + 1;
        }

        private static int endOfNumber(Text text, int from) {
            int end = from;
            for (int i = 0; i < 3 && text.isDigitAt(end); i++) {
                end++;
            }
            return end;
        }
    }

    /** Finds in which of some documents a question holds, and with which scores. */
    private static final class Finder {
        private final Lexicon lexicon;
        private final Library library;
        private final long[] held;
        private final float[][] worth;
        private final long[] wordPlaces;
        private long there;
        private int many;
        private float mean;

        Finder(Lexicon lexicon, Library library) {
            this.lexicon = lexicon;
            this.library = library;
            held = new long[MOST_CLAUSES];
            worth = new float[MOST_CLAUSES][MOST_DOCUMENTS];
            wordPlaces = new long[MOST_WORDS];
            there = 0L;
            many = 0;
            mean = 0.0f;
        }

        /** From the last clause to the first one, as the clauses in brackets stand behind these. */
        long find(Question question, Index index, long members) {
            there = members;
            many = Long.bitCount(members);
            mean = many > 0 ? (float) index.lengthOfAll(members) / (float) many : 0.0f;
            for (int clause = question.size() - 1; clause >= 0; clause--) {
                switch (question.kindOf(clause)) {
                    case PHRASE:
                        findPhrase(question, index, clause);
                        break;
                    case BEGINNING:
                    case NEAR:
                        findWidened(question, index, clause);
                        break;
                    case RANGE:
                        findRange(question, clause);
                        break;
                    default:
                        findGroup(question, clause);
                        break;
                }
            }
            return heldAt(ROOT);
        }

        float scoreOf(int document) {
            return worthAt(ROOT, document);
        }

        private long heldAt(int clause) {
            return clause >= 0 && clause < held.length ? held[clause] : 0L;
        }

        private void setHeld(int clause, long members) {
            if (clause >= 0 && clause < held.length) {
                held[clause] = members;
            }
        }

        private float worthAt(int clause, int document) {
            if (clause < 0 || clause >= worth.length || worth[clause] == null) {
                return 0.0f;
            }
            float[] row = worth[clause];
            return document >= 0 && document < row.length ? row[document] : 0.0f;
        }

        private void setWorth(int clause, int document, float score) {
            if (clause >= 0 && clause < worth.length && worth[clause] != null) {
                float[] row = worth[clause];
                if (document >= 0 && document < row.length) {
                    row[document] = score;
                }
            }
        }

        private void findPhrase(Question question, Index index, int clause) {
            int from = question.fromOf(clause);
            int end = question.endOf(clause);
            long likely = from < end ? there : 0L;
            float weight = 0.0f;
            for (int i = from; i < end; i++) {
                long homes = index.homesOf(question.wordAt(i)) & there;
                int having = Long.bitCount(homes);
                weight = weight + (1.0f + (float) (many - having) / (float) (having + 1));
                likely = likely & homes;
            }
            long members = 0L;
            for (int document = 0; document < MOST_DOCUMENTS; document++) {
                int times = isIn(likely, document) ? timesIn(question, index, clause, document) : 0;
                if (times > 0) {
                    members = members | only(document);
                    setWorth(clause, document, scoreFor(weight, times, index.lengthOf(document)));
                }
            }
            setHeld(clause, members);
        }

        private float scoreFor(float weight, int times, int length) {
            if (!(mean > 0.0f)) {
                return 0.0f;
            }
            int highest = Integer.highestOneBit(length);
            int coarse = length & (highest | highest >> 1 | highest >> 2);
            float divisor = (float) times + 1.2f * (0.25f + 0.75f * (float) coarse / mean);
            return divisor > 0.0f ? weight * ((float) times * 2.2f / divisor) : 0.0f;
        }

        private int timesIn(Question question, Index index, int clause, int document) {
            int from = question.fromOf(clause);
            for (int i = from; i < question.endOf(clause); i++) {
                if (i >= 0 && i < wordPlaces.length) {
                    wordPlaces[i] = index.placesOf(document, question.wordAt(i));
                }
            }
            int times = 0;
            for (int place = 0; place < MOST_WORDS; place++) {
                if (nextPlace(from, place) == place && goesOn(question, clause, place)) {
                    times++;
                }
            }
            return times;
        }

        private int nextPlace(int word, int from) {
            if (word < 0 || word >= wordPlaces.length || from < 0 || from >= MOST_WORDS) {
                return NONE;
            }
            long behind = wordPlaces[word] >>> from;
            return behind == 0L ? NONE : from + Long.numberOfTrailingZeros(behind);
        }

        /** The nearest place for each word leaves the most of the slop for those behind it. */
        private boolean goesOn(Question question, int clause, int first) {
            int place = first;
            int spent = 0;
            for (int i = question.fromOf(clause) + 1; i < question.endOf(clause); i++) {
                int due = place + question.offsetAt(i) - question.offsetAt(i - 1);
                place = nextPlace(i, due);
                if (place == NONE) {
                    return false;
                }
                spent += place - due;
            }
            return spent <= question.slopOf(clause);
        }

        private void findWidened(Question question, Index index, int clause) {
            long members = 0L;
            int found = 0;
            for (int rank = 0; rank < lexicon.size() && found < WIDENED_TO; rank++) {
                int stem = lexicon.stemAt(rank);
                long homes = index.homesOf(stem) & there;
                if (homes != 0L && isMeant(question, clause, stem)) {
                    members = members | homes;
                    found++;
                }
            }
            setHeldAsOne(clause, members);
        }

        private boolean isMeant(Question question, int clause, int stem) {
            int from = question.fromOf(clause);
            int end = question.endOf(clause);
            if (question.kindOf(clause) == BEGINNING) {
                return lexicon.begins(stem, question.text(), from, end);
            }
            return lexicon.distance(stem, question.text(), from, end) <= 1;
        }

        private void findRange(Question question, int clause) {
            long members = 0L;
            for (int document = 0; document < library.size(); document++) {
                int value = library.value(document);
                boolean isWithin = value >= question.fromOf(clause) && value <= question.endOf(clause);
                if (isIn(there, document) && value != NONE && isWithin) {
                    members = members | only(document);
                }
            }
            setHeldAsOne(clause, members);
        }

        private void setHeldAsOne(int clause, long members) {
            setHeld(clause, members);
            for (int document = 0; document < MOST_DOCUMENTS; document++) {
                setWorth(clause, document, 1.0f);
            }
        }

        private void findGroup(Question question, int group) {
            long due = there;
            long others = 0L;
            long barred = 0L;
            boolean isDue = false;
            for (int clause = group + 1; clause < question.size(); clause++) {
                if (question.parentOf(clause) == group) {
                    char sign = question.signOf(clause);
                    if (sign == '-') {
                        barred = barred | heldAt(clause);
                    } else if (sign == '+') {
                        due = due & heldAt(clause);
                        isDue = true;
                    } else {
                        others = others | heldAt(clause);
                    }
                }
            }
            setHeld(group, (isDue ? due : others) & ~barred);
            sumUp(question, group);
        }

        private void sumUp(Question question, int group) {
            for (int document = 0; document < MOST_DOCUMENTS; document++) {
                float sum = 0.0f;
                for (int clause = group + 1; clause < question.size(); clause++) {
                    boolean isPart = question.parentOf(clause) == group && question.signOf(clause) != '-';
                    if (isPart && isIn(heldAt(clause), document)) {
                        sum = sum + worthAt(clause, document);
                    }
                }
                setWorth(group, document, sum);
            }
        }
    }

    /** What was asked, of which documents, and the documents that answer it. */
    private static final class Answer {
        private final int[] ranked;
        private final float[] scores;
        private Question question;
        private boolean isThere;
        private int count;
        private int next;
        private long there;
        private long held;
        private char order;
        private int filter;

        Answer() {
            ranked = new int[MOST_DOCUMENTS];
            scores = new float[MOST_DOCUMENTS];
            question = new Question();
            isThere = false;
            count = 0;
            next = 0;
            there = 0L;
            held = 0L;
            order = 's';
            filter = NONE;
        }

        void begin(Question asked, long members, char orderAsked, int filterSet) {
            question = asked;
            there = members;
            order = orderAsked;
            filter = filterSet;
        }

        void seek(Finder finder, Index index, Library library) {
            held = finder.find(question, index, there);
            long members = filter == NONE ? held : library.ofKind(held, filter);
            count = 0;
            next = 0;
            isThere = true;
            for (int document = 0; document < MOST_DOCUMENTS; document++) {
                if (isIn(members, document)) {
                    setScore(document, finder.scoreOf(document));
                    insert(document, library);
                }
            }
        }

        /** Documents come by rising numbers, so that equal ones stay so. */
        private void insert(int document, Library library) {
            int rank = count;
            for (int i = count - 1; i >= 0 && goesAhead(document, rankedAt(i), library); i--) {
                setCell(ranked, i + 1, rankedAt(i));
                rank = i;
            }
            setCell(ranked, rank, document);
            count++;
        }

        private boolean goesAhead(int document, int other, Library library) {
            if (order == 's') {
                return scoreOf(document) > scoreOf(other);
            }
            int value = library.value(document);
            int otherValue = library.value(other);
            if (value == NONE || otherValue == NONE) {
                return value != NONE && otherValue == NONE;
            }
            return order == 'u' ? value < otherValue : value > otherValue;
        }

        int goOn(int many) {
            int coming = Math.min(many, count - next);
            next += coming;
            return coming;
        }

        boolean isSameAs(Answer other) {
            if (count != other.size() || held != other.held()) {
                return false;
            }
            for (int rank = 0; rank < count; rank++) {
                int document = rankedAt(rank);
                if (document != other.rankedAt(rank) || scoreOf(document) != other.scoreOf(document)) {
                    return false;
                }
            }
            return true;
        }

        Question question() {
            return question;
        }

        boolean isThere() {
            return isThere;
        }

        int size() {
            return count;
        }

        boolean has(int rank) {
            return isThere && rank >= 0 && rank < count;
        }

        int rankedAt(int rank) {
            return cell(ranked, rank);
        }

        float scoreOf(int document) {
            return document >= 0 && document < scores.length ? scores[document] : 0.0f;
        }

        private void setScore(int document, float score) {
            if (document >= 0 && document < scores.length) {
                scores[document] = score;
            }
        }

        int next() {
            return next;
        }

        long view() {
            return there;
        }

        long held() {
            return held;
        }

        char order() {
            return order;
        }

        int filter() {
            return filter;
        }
    }
}
