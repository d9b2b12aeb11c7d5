/** Counts and prints the answers that are not due, and ends a test with exit code 1 if there were any. */
final class Check {
    /** Far outside of every range; some wrap round into one when they are multiplied or shifted. */
    static final int[] FAR_NUMBERS = {
        Integer.MIN_VALUE, Integer.MIN_VALUE + 1, -(1 << 30), -(1 << 27), -(1 << 22), -1024, -64, -32, -2,
        1024, 1 << 16, 1 << 22, 1 << 27, 1 << 30, (1 << 30) + 1, 1431655766, Integer.MAX_VALUE - 1,
        Integer.MAX_VALUE};

    private int wrong = 0;

    void due(String call, long got, long want) {
        if (got != want) {
            wrong++;
            System.out.println(call + " answered " + got + ", due is " + want);
        }
    }

    void due(String call, boolean got, boolean want) {
        due(call, got ? 1L : 0L, want ? 1L : 0L);
    }

    void due(String what, String got, String want) {
        if (!got.equals(want)) {
            wrong++;
            System.out.println(what + ": " + got + ", due is " + want);
        }
    }

    boolean isClean() {
        return wrong == 0;
    }

    void end() {
        System.out.println(isClean() ? "all answers are as due" : wrong + " answers are not as due");
        if (!isClean()) {
            System.exit(1);
        }
    }

    /** Begins a word; all of its characters must be right. */
    static void begin(SixfoldTriples x, String word) {
        for (int i = 0; i < word.length(); i++) {
            if (!x.letter(word.charAt(i))) {
                throw new IllegalStateException("no letter " + i + " of " + word);
            }
        }
    }

    static int take(SixfoldTriples x, String word) {
        begin(x, word);
        return x.intern();
    }

    /** A new object with the words A, B, C .. */
    static SixfoldTriples withWords(int count) {
        SixfoldTriples x = new SixfoldTriples();
        takeWords(x, count);
        return x;
    }

    static void takeWords(SixfoldTriples x, int count) {
        for (int i = 0; i < count; i++) {
            take(x, String.valueOf((char) ('A' + i)));
        }
    }

    /** The i-th of the 64 triples of four terms. */
    static int insertNumber(SixfoldTriples x, int i) {
        return x.insert(i / 16, i / 4 % 4, i % 4);
    }

    static int removeNumber(SixfoldTriples x, int i) {
        return x.remove(i / 16, i / 4 % 4, i % 4);
    }

    /** The triples number from .. to - 1 are put in, which must all be new. */
    static void insertNumbers(SixfoldTriples x, int from, int to) {
        for (int i = from; i < to; i++) {
            if (insertNumber(x, i) != 1) {
                throw new IllegalStateException("triple " + i + " is not put in");
            }
        }
    }

    static void removeNumbers(SixfoldTriples x, int from, int to) {
        for (int i = from; i < to; i++) {
            if (removeNumber(x, i) != 1) {
                throw new IllegalStateException("triple " + i + " is not taken out");
            }
        }
    }

    static int code(int subject, int verb, int object) {
        return (subject * 32 + verb) * 32 + object;
    }
}
