import java.util.function.ToIntFunction;

/**
 * "An object is used for at most 512 calls after it has been made": all promises hold up to and
 * with the 512th call, whichever calls came before it, the dearest ones among them.
 */
public final class LastCallTest {
    private static final int BAD = SixfoldTriples.BAD;
    private static final int FULL = SixfoldTriples.FULL;
    private static final int CALLS = 512;
    private static final Check CHECK = new Check();

    public static void main(String[] args) {
        lettersAlone();
        wordsTakenInAlone();
        mergesAlone();
        changesAlone();
        mergesBeforeChanges();
        refusedPatternsAlone();
        patternsAndClears();
        dearestRunsAlone();
        everyCallIsTheLast();
        CHECK.end();
    }

    private static void lettersAlone() {
        SixfoldTriples x = new SixfoldTriples();
        for (int call = 1; call < CALLS; call++) {
            CHECK.due("2: letter as call " + call, x.letter('a'), call <= 6);
        }
        CHECK.due("3: intern() as the last call", x.intern(), 0);
    }

    private static void wordsTakenInAlone() {
        SixfoldTriples x = new SixfoldTriples();
        for (int call = 1; call < CALLS - 1; call += 2) {
            int word = call / 2 % 24;
            CHECK.due("2: letter as call " + call, x.letter((char) ('A' + word)), true);
            CHECK.due("3: intern() as call " + (call + 1), x.intern(), word);
        }
        CHECK.due("3: intern() as call " + (CALLS - 1), x.intern(), BAD);
        CHECK.due("4: words() as the last call", x.words(), 24);
    }

    private static void mergesAlone() {
        SixfoldTriples x = new SixfoldTriples();
        for (int call = 1; call < CALLS; call++) {
            CHECK.due("8: merge() as call " + call, x.merge(), 0);
        }
        CHECK.due("11: merges() as the last call", x.merges(), CALLS - 1);
    }

    /** One triple goes in and out: never more than one is pending, so nothing is merged. */
    private static void changesAlone() {
        SixfoldTriples x = Check.withWords(1);
        for (int call = 3; call < CALLS; call++) {
            int answer = call % 2 == 1 ? x.insert(0, 0, 0) : x.remove(0, 0, 0);
            CHECK.due("6: change as call " + call, answer, 1);
        }
        CHECK.due("11: merges() as the last call", x.merges(), 0);
    }

    /** Other triples go in and out, sixty at a time: every thirteenth change is merged before. */
    private static void mergesBeforeChanges() {
        SixfoldTriples x = Check.withWords(4);
        int changes = 0;
        for (int call = 9; call < CALLS; call++) {
            int number = changes % 60;
            boolean goesIn = changes / 60 % 2 == 0;
            int answer = goesIn ? Check.insertNumber(x, number) : Check.removeNumber(x, number);
            CHECK.due("6: change as call " + call, answer, 1);
            changes++;
        }
        CHECK.due("11: merges() as the last call", x.merges(), (changes - 1) / 12);
    }

    private static void refusedPatternsAlone() {
        SixfoldTriples x = new SixfoldTriples();
        for (int call = 1; call < CALLS; call++) {
            CHECK.due("13: where as call " + call, x.where(32, 33, 34), call <= 4 ? call : FULL);
        }
        CHECK.due("15: run as the last call", x.run(32, 33, 34), 0);
    }

    private static void patternsAndClears() {
        SixfoldTriples x = new SixfoldTriples();
        for (int call = 1; call < CALLS; call++) {
            if (call % 3 == 0) {
                x.clear();
            } else {
                CHECK.due("13: where as call " + call, x.where(32, 33, 34), call % 3);
            }
        }
        CHECK.due("13: where as the last call", x.where(32, 33, 34), (CALLS - 1) % 3 + 1);
    }

    /** 13824 answers each time. */
    private static void dearestRunsAlone() {
        SixfoldTriples x = Check.withWords(24);
        for (int i = 0; i < 24; i++) {
            x.insert(i, i, i);
        }
        for (int variable = 32; variable <= 34; variable++) {
            x.where(variable, variable, variable);
        }
        for (int call = 76; call < CALLS; call++) {
            CHECK.due("15: run as call " + call, x.run(32, 33, 34), 24 * 24 * 24);
        }
        CHECK.due("17: live() as the last call", x.live(), 24 + 24 * 24 + 24 * 24 * 24);
    }

    private static void everyCallIsTheLast() {
        last("2: letter", x -> x.letter('a') ? 1 : 0, 1);
        last("3: intern()", x -> x.intern(), 23);
        last("4: words()", x -> x.words(), 24);
        last("5: spell(23, 0)", x -> x.spell(23, 0), 'X');
        last("6: insert", x -> Check.insertNumber(x, 59), 1);
        last("7: remove", x -> Check.removeNumber(x, 0), 1);
        last("8: merge()", x -> x.merge(), 11);
        last("9: size()", x -> x.size(), 59);
        last("10: pending()", x -> x.pending(), 11);
        last("11: merges()", x -> x.merges(), 4);
        last("12: triple(5, 58)", x -> x.triple(5, 58), Check.code(2, 3, 3));
        last("13: where", x -> x.where(32, 33, 34), 4);
        last("15: run", x -> x.run(32, 33, 34), 4 * 4 * 4);
        last("16: answer(63, 32)", x -> x.answer(63, 32), 3);
        last("17: live()", x -> x.live(), 4 + 16 + 64);
    }

    /** The call is the last one of an object on which all others have been made. */
    private static void last(String name, ToIntFunction<SixfoldTriples> call, int want) {
        SixfoldTriples x = Check.withWords(24);
        Check.insertNumbers(x, 0, 59);
        x.letter('X');
        x.where(32, 0, 0);
        x.where(33, 0, 0);
        x.where(0, 0, 34);
        x.run(34, 33, 32);
        int before = 48 + 59 + 1 + 3 + 1;
        for (int i = before + 1; i < CALLS; i++) {
            x.size();
        }
        CHECK.due(name + " as the last call", call.applyAsInt(x), want);
    }
}
