/** Counts and prints the answers that are not due, and ends a test with exit code 1 if there were any. */
final class Check {
    private int wrong = 0;

    void due(String call, long got, long want) {
        if (got != want) {
            wrong++;
            System.out.println(call + " answered " + got + ", due is " + want);
        }
    }

    void due(String call, boolean got, boolean want) {
        due(call, got ? 1L : 0L, want ? 1L : 0L);
    }

    boolean isClean() {
        return wrong == 0;
    }

    void end() {
        System.out.println(isClean() ? "all answers are as due" : wrong + " answers are not as due");
        if (!isClean()) {
            System.exit(1);
        }
    }

    /** Begins a word; all of its characters must be right. */
    static void begin(SixfoldTriples x, String word) {
        for (int i = 0; i < word.length(); i++) {
            if (!x.letter(word.charAt(i))) {
                throw new IllegalStateException("no letter " + i + " of " + word);
            }
        }
    }

    static int take(SixfoldTriples x, String word) {
        begin(x, word);
        return x.intern();
    }

    /** A new object with the words A, B, C .. */
    static SixfoldTriples withWords(int count) {
        SixfoldTriples x = new SixfoldTriples();
        for (int i = 0; i < count; i++) {
            take(x, String.valueOf((char) ('A' + i)));
        }
        return x;
    }

    static int code(int subject, int verb, int object) {
        return (subject * 32 + verb) * 32 + object;
    }
}
