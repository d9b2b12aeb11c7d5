/**
 * A store of triples of words: a dictionary of the words, a set of triples that is changed and
 * merged, and questions of several patterns with common variables, answered in the order of any
 * row of the variables.
 */
public final class SixfoldTriples {
    /** A number is out of its range, or something is not as it must be. */
    public static final int BAD = -1;
    /** There is no room. */
    public static final int FULL = -2;

    private static final int NONE = -1;

    private static final int LOWEST_CODE = 33;
    private static final int HIGHEST_CODE = 126;
    private static final int MOST_LETTERS = 6;
    private static final int LETTER_BITS = 7;
    private static final int LETTER_MASK = 127;
    private static final int MOST_WORDS = 24;

    private static final int PARTS = 3;
    private static final int TERM_BITS = 5;
    private static final int TERM_MASK = 31;
    private static final int MOST_TRIPLES = 60;
    private static final int MOST_PENDING = 12;

    private static final int WAYS = 6;
    /** Way w sorts by the parts PARTS_OF_WAYS[3 * w], [3 * w + 1] and [3 * w + 2]. */
    private static final int[] PARTS_OF_WAYS = {0, 1, 2, 0, 2, 1, 1, 0, 2, 1, 2, 0, 2, 0, 1, 2, 1, 0};

    private static final int LOWEST_VARIABLE = 32;
    private static final int MOST_VARIABLES = 3;
    private static final int MOST_PATTERNS = 4;
    private static final int MOST_ANSWERS_KEPT = 200;

    private final Dictionary dictionary;
    private final TripleSet triples;
    private final Question question;
    private final Search search;

    public SixfoldTriples() {
        dictionary = new Dictionary();
        triples = new TripleSet();
        question = new Question();
        search = new Search();
    }

    public boolean letter(char c) {
        return dictionary.addLetter(c);
    }

    public int intern() {
        return dictionary.takeIn();
    }

    public int words() {
        return dictionary.count;
    }

    public int spell(int term, int i) {
        return dictionary.letterAt(term, i);
    }

    public int insert(int subject, int verb, int object) {
        if (!areTerms(subject, verb, object)) {
            return BAD;
        }
        int code = codeOf(subject, verb, object);
        if (triples.holds(code)) {
            return 0;
        }
        if (triples.isFull()) {
            return FULL;
        }
        triples.put(code);
        return 1;
    }

    public int remove(int subject, int verb, int object) {
        if (!areTerms(subject, verb, object)) {
            return BAD;
        }
        int code = codeOf(subject, verb, object);
        if (!triples.holds(code)) {
            return 0;
        }
        triples.take(code);
        return 1;
    }

    public int merge() {
        int were = triples.pendingCount;
        triples.settle();
        return were;
    }

    public int size() {
        return triples.count();
    }

    public int pending() {
        return triples.pendingCount;
    }

    public int merges() {
        return triples.mergeCount;
    }

    public int triple(int way, int k) {
        if (way < 0 || way >= WAYS) {
            return NONE;
        }
        return triples.codeAt(way, k);
    }

    public int where(int subject, int verb, int object) {
        if (!fitsPattern(subject) || !fitsPattern(verb) || !fitsPattern(object)) {
            return BAD;
        }
        if (question.isFull()) {
            return FULL;
        }
        question.add(subject, verb, object);
        return question.count;
    }

    public void clear() {
        question.count = 0;
    }

    public int run(int first, int second, int third) {
        if (question.count == 0 || !question.hasRow(first, second, third)) {
            return BAD;
        }
        search.begin(first, second, third);
        search.prepare(question, triples, dictionary.count);
        search.findAll();
        return search.found;
    }

    public int answer(int k, int variable) {
        if (!isVariable(variable)) {
            return NONE;
        }
        return search.termAt(k, variable - LOWEST_VARIABLE);
    }

    public int live() {
        return search.liveCount;
    }

    private boolean areTerms(int subject, int verb, int object) {
        return dictionary.has(subject) && dictionary.has(verb) && dictionary.has(object);
    }

    private boolean fitsPattern(int number) {
        return isVariable(number) || dictionary.has(number);
    }

    private static boolean isVariable(int number) {
        return number >= LOWEST_VARIABLE && number < LOWEST_VARIABLE + MOST_VARIABLES;
    }

    private static int codeOf(int first, int second, int third) {
        return (((first << TERM_BITS) | second) << TERM_BITS) | third;
    }

    private static int shiftOf(int part) {
        return TERM_BITS * (PARTS - 1 - part);
    }

    private static int partOf(int code, int part) {
        return (code >> shiftOf(part)) & TERM_MASK;
    }

    /**
     * The words and the word that is begun. A word is one long, seven bits a character: no
     * character has code 0, so different words are different numbers, whatever their lengths.
     */
    private static final class Dictionary {
        private final long[] packedWords;
        private final int[] lengths;
        private int count;
        private long begun;
        private int begunLength;

        Dictionary() {
            packedWords = new long[MOST_WORDS];
            lengths = new int[MOST_WORDS];
            count = 0;
            begun = 0L;
            begunLength = 0;
        }

        boolean has(int term) {
            return term >= 0 && term < count;
        }

        boolean addLetter(char c) {
            if (c < LOWEST_CODE || c > HIGHEST_CODE || begunLength >= MOST_LETTERS) {
                return false;
            }
            begun = (begun << LETTER_BITS) | c;
            begunLength++;
            return true;
        }

        int takeIn() {
            if (begunLength == 0) {
                return BAD;
            }
            int number = numberOfBegun();
            if (number == NONE) {
                if (count >= MOST_WORDS) {
                    return FULL;
                }
                number = count;
                packedWords[number] = begun;
                lengths[number] = begunLength;
                count++;
            }
            begun = 0L;
            begunLength = 0;
            return number;
        }

        private int numberOfBegun() {
            for (int i = 0; i < count; i++) {
                if (packedWords[i] == begun) {
                    return i;
                }
            }
            return NONE;
        }

        int letterAt(int term, int i) {
            if (!has(term) || i < 0 || i >= lengths[term]) {
                return NONE;
            }
            int shift = LETTER_BITS * (lengths[term] - 1 - i);
            return (int) (packedWords[term] >> shift) & LETTER_MASK;
        }
    }

    /**
     * Triples in the order of one way. A triple's key has its parts in the way's order, so that
     * the keys' order as numbers is the way's order.
     */
    private static final class Order {
        private final int firstPart;
        private final int secondPart;
        private final int thirdPart;
        private final int[] keys;
        private int count;

        Order(int firstPart, int secondPart, int thirdPart) {
            this.firstPart = firstPart;
            this.secondPart = secondPart;
            this.thirdPart = thirdPart;
            keys = new int[MOST_TRIPLES];
            count = 0;
        }

        private int keyOf(int code) {
            return codeOf(partOf(code, firstPart), partOf(code, secondPart), partOf(code, thirdPart));
        }

        private int rankOf(int key) {
            int rank = 0;
            while (rank < count && keys[rank] < key) {
                rank++;
            }
            return rank;
        }

        boolean holds(int code) {
            int key = keyOf(code);
            int rank = rankOf(key);
            return rank < count && keys[rank] == key;
        }

        int codeAt(int k) {
            if (k < 0 || k >= count) {
                return NONE;
            }
            int key = keys[k];
            return (partOf(key, 0) << shiftOf(firstPart))
                    | (partOf(key, 1) << shiftOf(secondPart))
                    | (partOf(key, 2) << shiftOf(thirdPart));
        }

        void put(int code) {
            if (count >= MOST_TRIPLES) {
                return;
            }
            int key = keyOf(code);
            int rank = rankOf(key);
            System.arraycopy(keys, rank, keys, rank + 1, count - rank);
            keys[rank] = key;
            count++;
        }

        void take(int code) {
            int key = keyOf(code);
            int rank = rankOf(key);
            if (rank >= count || keys[rank] != key) {
                return;
            }
            System.arraycopy(keys, rank + 1, keys, rank, count - rank - 1);
            count--;
        }

        void copyFrom(Order other) {
            System.arraycopy(other.keys, 0, keys, 0, other.count);
            count = other.count;
        }
    }

    /** The present set in all six orders, the settled set in the first of them. */
    private static final class TripleSet {
        private final Order[] present;
        private final Order settled;
        private int pendingCount;
        private int mergeCount;

        TripleSet() {
            present = new Order[WAYS];
            for (int way = 0; way < WAYS; way++) {
                present[way] = orderOfWay(way);
            }
            settled = orderOfWay(0);
            pendingCount = 0;
            mergeCount = 0;
        }

        private static Order orderOfWay(int way) {
            int at = PARTS * way;
            return new Order(PARTS_OF_WAYS[at], PARTS_OF_WAYS[at + 1], PARTS_OF_WAYS[at + 2]);
        }

        int count() {
            return present[0].count;
        }

        boolean isFull() {
            return present[0].count >= MOST_TRIPLES;
        }

        boolean holds(int code) {
            return present[0].holds(code);
        }

        int codeAt(int way, int k) {
            return present[way].codeAt(k);
        }

        /** Only for a code that is not held, while the set is not full. */
        void put(int code) {
            settleWhenDue();
            for (int way = 0; way < WAYS; way++) {
                present[way].put(code);
            }
            pendingCount += settled.holds(code) ? -1 : 1;
        }

        /** Only for a code that is held. */
        void take(int code) {
            settleWhenDue();
            for (int way = 0; way < WAYS; way++) {
                present[way].take(code);
            }
            pendingCount += settled.holds(code) ? 1 : -1;
        }

        private void settleWhenDue() {
            if (pendingCount >= MOST_PENDING) {
                settle();
            }
        }

        void settle() {
            settled.copyFrom(present[0]);
            pendingCount = 0;
            mergeCount++;
        }
    }

    /** The patterns, three numbers each in one row. */
    private static final class Question {
        private final int[] numbers;
        private int count;

        Question() {
            numbers = new int[MOST_PATTERNS * PARTS];
            count = 0;
        }

        boolean isFull() {
            return count >= MOST_PATTERNS;
        }

        /** Only while the question is not full. */
        void add(int subject, int verb, int object) {
            int at = count * PARTS;
            numbers[at] = subject;
            numbers[at + 1] = verb;
            numbers[at + 2] = object;
            count++;
        }

        /** The first part of a pattern where a number stands, or NONE. */
        int placeOf(int pattern, int number) {
            for (int part = 0; part < PARTS; part++) {
                if (numbers[pattern * PARTS + part] == number) {
                    return part;
                }
            }
            return NONE;
        }

        /** Whether a triple agrees with a pattern under the binding of no variables. */
        boolean agrees(int pattern, int code) {
            for (int part = 0; part < PARTS; part++) {
                int number = numbers[pattern * PARTS + part];
                int due = isVariable(number) ? partOf(code, placeOf(pattern, number)) : number;
                if (partOf(code, part) != due) {
                    return false;
                }
            }
            return true;
        }

        boolean hasRow(int first, int second, int third) {
            int awaited = awaitedAfter(variableBits(), first);
            awaited = awaitedAfter(awaited, second);
            awaited = awaitedAfter(awaited, third);
            return awaited == 0;
        }

        private int variableBits() {
            int bits = 0;
            for (int i = 0; i < count * PARTS; i++) {
                if (isVariable(numbers[i])) {
                    bits |= 1 << (numbers[i] - LOWEST_VARIABLE);
                }
            }
            return bits;
        }

        /** The variables that a row must still have after its next number; NONE if it is wrong. */
        private static int awaitedAfter(int awaited, int number) {
            if (awaited == NONE) {
                return NONE;
            }
            if (number == NONE) {
                return awaited == 0 ? 0 : NONE;
            }
            if (!isVariable(number)) {
                return NONE;
            }
            int bit = 1 << (number - LOWEST_VARIABLE);
            return (awaited & bit) != 0 ? awaited - bit : NONE;
        }
    }

    /**
     * The latest run. A set of present triples is one long, a bit a triple: there are at most 60.
     * Variables are counted from 0 here.
     */
    private static final class Search {
        private final int[] row;
        private int rowLength;
        private int wordCount;
        private int patternCount;
        /** For each pattern and variable, the first part where the variable stands, or NONE. */
        private final int[] places;
        /** For each part and term, the triples that have the term there. */
        private final long[] holders;
        /** For each depth and pattern, the triples that agree with it as that many are bound. */
        private final long[] agreeing;
        private final int[] binding;
        private final int[] answers;
        private int found;
        private int liveCount;

        Search() {
            row = new int[MOST_VARIABLES];
            rowLength = 0;
            wordCount = 0;
            patternCount = 0;
            places = new int[MOST_PATTERNS * MOST_VARIABLES];
            holders = new long[PARTS * MOST_WORDS];
            agreeing = new long[(MOST_VARIABLES + 1) * MOST_PATTERNS];
            binding = new int[MOST_VARIABLES];
            answers = new int[MOST_ANSWERS_KEPT * MOST_VARIABLES];
            found = 0;
            liveCount = 0;
        }

        /** Forgets the run before; the row is right for the question. */
        void begin(int first, int second, int third) {
            rowLength = 0;
            lengthenRow(first);
            lengthenRow(second);
            lengthenRow(third);
            // A variable that the row lacks keeps NONE, which is what its answers are then.
            for (int variable = 0; variable < MOST_VARIABLES; variable++) {
                binding[variable] = NONE;
            }
            found = 0;
            liveCount = 0;
        }

        private void lengthenRow(int number) {
            if (isVariable(number) && rowLength < MOST_VARIABLES) {
                row[rowLength] = number - LOWEST_VARIABLE;
                rowLength++;
            }
        }

        void prepare(Question question, TripleSet triples, int words) {
            wordCount = words;
            patternCount = question.count;
            findPlaces(question);
            findHolders(triples);
            for (int pattern = 0; pattern < patternCount; pattern++) {
                agreeing[pattern] = agreeingUnbound(question, pattern, triples);
            }
        }

        private void findPlaces(Question question) {
            for (int pattern = 0; pattern < patternCount; pattern++) {
                for (int variable = 0; variable < MOST_VARIABLES; variable++) {
                    places[pattern * MOST_VARIABLES + variable] =
                            question.placeOf(pattern, LOWEST_VARIABLE + variable);
                }
            }
        }

        private void findHolders(TripleSet triples) {
            for (int i = 0; i < PARTS * MOST_WORDS; i++) {
                holders[i] = 0L;
            }
            for (int k = 0; k < triples.count(); k++) {
                int code = triples.codeAt(0, k);
                for (int part = 0; part < PARTS; part++) {
                    holders[part * MOST_WORDS + partOf(code, part)] |= 1L << k;
                }
            }
        }

        private static long agreeingUnbound(Question question, int pattern, TripleSet triples) {
            long set = 0L;
            for (int k = 0; k < triples.count(); k++) {
                if (question.agrees(pattern, triples.codeAt(0, k))) {
                    set |= 1L << k;
                }
            }
            return set;
        }

        void findAll() {
            if (fixedPatternsHold()) {
                walk(0);
            }
        }

        private boolean fixedPatternsHold() {
            for (int pattern = 0; pattern < patternCount; pattern++) {
                if (isFixed(pattern) && agreeing[pattern] == 0L) {
                    return false;
                }
            }
            return true;
        }

        private boolean isFixed(int pattern) {
            for (int variable = 0; variable < MOST_VARIABLES; variable++) {
                if (places[pattern * MOST_VARIABLES + variable] != NONE) {
                    return false;
                }
            }
            return true;
        }

        /** Every live binding's shorter ones are live too, so only live ones are made longer. */
        private void walk(int depth) {
            if (depth >= rowLength) {
                keepAnswer();
                return;
            }
            for (int term = 0; term < wordCount; term++) {
                bind(depth, term);
            }
        }

        private void bind(int depth, int term) {
            if (narrow(depth, term)) {
                binding[row[depth]] = term;
                liveCount++;
                walk(depth + 1);
            }
        }

        /**
         * Finds what agrees once the row's next variable is bound; false if the binding is not
         * live. Triples that agree have the same term at all places of a variable, so its first
         * place tells enough.
         */
        private boolean narrow(int depth, int term) {
            int from = depth * MOST_PATTERNS;
            int to = from + MOST_PATTERNS;
            for (int pattern = 0; pattern < patternCount; pattern++) {
                long set = agreeing[from + pattern];
                int place = places[pattern * MOST_VARIABLES + row[depth]];
                if (place != NONE) {
                    set &= holders[place * MOST_WORDS + term];
                    if (set == 0L) {
                        return false;
                    }
                }
                agreeing[to + pattern] = set;
            }
            return true;
        }

        private void keepAnswer() {
            if (found < MOST_ANSWERS_KEPT) {
                System.arraycopy(binding, 0, answers, found * MOST_VARIABLES, MOST_VARIABLES);
            }
            found++;
        }

        int termAt(int k, int variable) {
            if (k < 0 || k >= found || k >= MOST_ANSWERS_KEPT) {
                return NONE;
            }
            return answers[k * MOST_VARIABLES + variable];
        }
    }
}
