import java.util.ArrayList;
import java.util.List;
import java.util.function.Consumer;

/**
 * All that the calls can tell about an object. It is told by many objects that were made alike,
 * for some questions change what they ask about, and no object may have more than 512 calls.
 */
final class State {
    private static final int NONE = -1;
    private static final int[][] ROWS = {
        {NONE, NONE, NONE}, {32, NONE, NONE}, {33, NONE, NONE}, {34, NONE, NONE},
        {32, 33, NONE}, {33, 32, NONE}, {32, 34, NONE}, {34, 32, NONE}, {33, 34, NONE}, {34, 33, NONE},
        {32, 33, 34}, {32, 34, 33}, {33, 32, 34}, {33, 34, 32}, {34, 32, 33}, {34, 33, 32}};

    private final Consumer<SixfoldTriples> calls;
    private final List<String> told = new ArrayList<>();

    private State(Consumer<SixfoldTriples> calls) {
        this.calls = calls;
    }

    /** What can be told about a new object after some calls. */
    static List<String> after(Consumer<SixfoldTriples> calls) {
        State state = new State(calls);
        state.tellWords();
        state.tellBegunWord();
        state.tellPresentSet();
        state.tellSettledSet();
        state.tellQuestion();
        state.tellLatestRun();
        return state.told;
    }

    private SixfoldTriples made() {
        SixfoldTriples x = new SixfoldTriples();
        calls.accept(x);
        return x;
    }

    private void tell(String call, int answer) {
        told.add(call + " = " + answer);
    }

    private void tellWords() {
        SixfoldTriples x = made();
        tell("words()", x.words());
        for (int term = 0; term <= 24; term++) {
            tellSpelling(x, term);
        }
    }

    private void tellSpelling(SixfoldTriples x, int term) {
        for (int i = 0; i <= 6; i++) {
            tell("spell(" + term + ", " + i + ")", x.spell(term, i));
        }
    }

    private void tellBegunWord() {
        SixfoldTriples x = made();
        int term = x.intern();
        tell("intern()", term);
        tellSpelling(x, term);
        SixfoldTriples y = made();
        int letters = 0;
        while (letters < 7 && y.letter('z')) {
            letters++;
        }
        tell("letters that the begun word has room for", letters);
        tell("intern() with these", y.intern());
        // With a full dictionary only a longer word that is known tells which one is begun.
        SixfoldTriples z = made();
        z.letter('2');
        tell("intern() with 2", z.intern());
    }

    private void tellPresentSet() {
        for (int way = 0; way < 6; way++) {
            SixfoldTriples x = made();
            tell("size()", x.size());
            tell("pending()", x.pending());
            tell("merges()", x.merges());
            for (int k = 0; k <= 60; k++) {
                tell("triple(" + way + ", " + k + ")", x.triple(way, k));
            }
        }
    }

    /** A triple that is in both sets or in none of them makes one more pending when it is changed. */
    private void tellSettledSet() {
        for (int i = 0; i < 64; i++) {
            SixfoldTriples x = made();
            boolean isChanged = Check.insertNumber(x, i) == 1 || Check.removeNumber(x, i) == 1;
            tell("triple number " + i + " is changed", isChanged ? 1 : 0);
            tell("pending() after triple number " + i, x.pending());
            tell("merges() after triple number " + i, x.merges());
        }
    }

    private void tellQuestion() {
        SixfoldTriples x = made();
        for (int[] row : ROWS) {
            String run = "run(" + row[0] + ", " + row[1] + ", " + row[2] + ")";
            tell(run, x.run(row[0], row[1], row[2]));
            tell("live() after " + run, x.live());
            for (int k = 0; k < 3; k++) {
                for (int variable = 32; variable <= 34; variable++) {
                    tell("answer(" + k + ", " + variable + ") after " + run, x.answer(k, variable));
                }
            }
        }
        tell("where(32, 33, 34)", x.where(32, 33, 34));
    }

    private void tellLatestRun() {
        for (int variable = 32; variable <= 34; variable++) {
            SixfoldTriples x = made();
            tell("live()", x.live());
            for (int k = 0; k <= 200; k++) {
                tell("answer(" + k + ", " + variable + ")", x.answer(k, variable));
            }
        }
    }
}
