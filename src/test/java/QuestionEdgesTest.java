import java.util.ArrayList;
import java.util.List;

/** The edges of promises 13 to 17 and of the terms PATTERN, QUESTION and LIVE, sentence by sentence. */
public final class QuestionEdgesTest {
    private static final int BAD = SixfoldTriples.BAD;
    private static final int FULL = SixfoldTriples.FULL;
    private static final int[] ROW_NUMBERS = {-1, -2, 0, 1, 2, 31, 32, 33, 34, 35, 64, 65, 66, Integer.MAX_VALUE,
        Integer.MIN_VALUE};
    /** The right rows of each set of variables, which has bit i for the variable 32 + i. */
    private static final String[][] RIGHT_ROWS = {
        {"-1,-1,-1"},
        {"32,-1,-1"},
        {"33,-1,-1"},
        {"32,33,-1", "33,32,-1"},
        {"34,-1,-1"},
        {"32,34,-1", "34,32,-1"},
        {"33,34,-1", "34,33,-1"},
        {"32,33,34", "32,34,33", "33,32,34", "33,34,32", "34,32,33", "34,33,32"}};
    private static final int[][] ROWS = {
        {-1, -1, -1}, {32, -1, -1}, {33, -1, -1}, {32, 33, -1}, {34, -1, -1}, {32, 34, -1}, {33, 34, -1},
        {32, 33, 34}};
    private static final Check CHECK = new Check();

    public static void main(String[] args) {
        numbersOfPatterns();
        laterWordIsATerm();
        atMostFourPatterns();
        refusedPatternsAreNotAdded();
        wrongNumberInAFullQuestion();
        clearMakesEmpty();
        clearOfAnEmptyQuestion();
        clearChangesNothingElse();
        emptyQuestionIsBad();
        rowsOfEveryQuestion();
        rowsOfRepeatedVariables();
        badRunChangesNothing();
        onlyTheLatestRunCounts();
        sameVariableTwiceOrMore();
        withoutVariables();
        withoutWordsOrTriples();
        asThePresentSetIs();
        fullSet();
        answersThatAreNot();
        answersFrom200();
        mostAnswers();
        variablesThatAreNot();
        variablesOfThatRun();
        noRun();
        liveOfNoRun();
        liveOfNoVariables();
        liveFromTheFirstVariable();
        liveBeforeAVariableIsBound();
        CHECK.end();
    }

    private static boolean isVariable(int number) {
        return number >= 32 && number <= 34;
    }

    private static boolean has(int variables, int variable) {
        return isVariable(variable) && (variables >> (variable - 32) & 1) == 1;
    }

    /** One pattern for each variable of the set, and one without. */
    private static void askWith(SixfoldTriples x, int variables) {
        x.where(0, 0, 0);
        for (int variable = 32; variable <= 34; variable++) {
            if (has(variables, variable)) {
                x.where(variable, 0, 0);
            }
        }
    }

    /** One word and the one triple of it, of which every pattern has an answer. */
    private static SixfoldTriples withOneTriple() {
        SixfoldTriples x = Check.withWords(1);
        x.insert(0, 0, 0);
        return x;
    }

    private static int run(SixfoldTriples x, int[] row) {
        return x.run(row[0], row[1], row[2]);
    }

    private static void noAnswer(String what, SixfoldTriples x) {
        for (int variable = 32; variable <= 34; variable++) {
            CHECK.due(what + ": answer(0, " + variable + ")", x.answer(0, variable), -1);
        }
    }

    /** Promise 13: "BAD when one of the numbers is neither a term in the dictionary nor 32, 33 or 34" */
    private static void numbersOfPatterns() {
        for (int words : new int[] {0, 1, 2, 23, 24}) {
            for (int place = 0; place < 3; place++) {
                SixfoldTriples x = Check.withWords(words);
                for (int number = -70; number <= 70; number++) {
                    boolean right = number >= 0 && number < words || isVariable(number);
                    numberOfPattern(x, place, number, right ? 1 : BAD);
                }
                for (int number : Check.FAR_NUMBERS) {
                    numberOfPattern(x, place, number, BAD);
                }
            }
        }
    }

    private static void numberOfPattern(SixfoldTriples x, int place, int number, int want) {
        int[] pattern = {32, 33, 34};
        pattern[place] = number;
        CHECK.due("13: number " + number + " in place " + place + " with " + x.words() + " words",
                x.where(pattern[0], pattern[1], pattern[2]), want);
        if (want != BAD) {
            x.clear();
        }
    }

    /** Terms: "each a term (that is in the dictionary)", which it is once its word is taken in. */
    private static void laterWordIsATerm() {
        SixfoldTriples x = Check.withWords(23);
        x.letter('x');
        CHECK.due("13: 23 while its word is begun", x.where(23, 23, 23), BAD);
        x.intern();
        CHECK.due("13: 23 once it is taken in", x.where(23, 23, 23), 1);
        CHECK.due("13: 24 never", x.where(24, 24, 24), BAD);
    }

    /** Terms: "A QUESTION is a list of at most 4 patterns."; promise 13: "FULL when the question has 4" */
    private static void atMostFourPatterns() {
        int[][] patterns = {{0, 0, 0}, {32, 33, 34}, {1, 1, 1}};
        for (int[] pattern : patterns) {
            SixfoldTriples x = Check.withWords(2);
            for (int count = 1; count <= 4; count++) {
                CHECK.due("13: like the one before", x.where(pattern[0], pattern[1], pattern[2]), count);
            }
            CHECK.due("13: a fifth", x.where(pattern[0], pattern[1], pattern[2]), FULL);
            CHECK.due("13: a fifth that is another", x.where(0, 1, 0), FULL);
        }
        SixfoldTriples x = Check.withWords(2);
        x.insert(0, 0, 1);
        for (int count = 1; count <= 3; count++) {
            x.where(0, 0, 1);
        }
        CHECK.due("13: the fourth", x.where(0, 0, 0), 4);
        CHECK.due("15: the fourth counts too", x.run(-1, -1, -1), 0);
        x.insert(0, 0, 0);
        CHECK.due("15: and has its triple now", x.run(-1, -1, -1), 1);
    }

    /** Promise 13: only what is not BAD or FULL "adds a pattern to the question". */
    private static void refusedPatternsAreNotAdded() {
        Refusals nothing = new Refusals(CHECK, "nothing", Refusals::nothing);
        Refusals some = new Refusals(CHECK, "two patterns", Refusals::some);
        for (int number : new int[] {-1, 4, 31, 35, Integer.MAX_VALUE, Integer.MIN_VALUE}) {
            nothing.due("13: subject " + number, x -> x.where(number, 32, 33), BAD);
            some.due("13: subject " + number, x -> x.where(number, 32, 33), BAD);
            some.due("13: verb " + number, x -> x.where(0, number, 33), BAD);
            some.due("13: object " + number, x -> x.where(0, 33, number), BAD);
        }
        Refusals full = new Refusals(CHECK, "four patterns", Refusals::full);
        full.due("13: a fifth with terms", x -> x.where(0, 1, 2), FULL);
        full.due("13: a fifth with variables", x -> x.where(32, 33, 34), FULL);
        full.due("13: a wrong fifth", x -> x.where(24, 33, 34), BAD);
    }

    /** Promise 13 does not say which comes first: it is the one that stands first in its text. */
    private static void wrongNumberInAFullQuestion() {
        SixfoldTriples x = Check.withWords(1);
        for (int i = 0; i < 4; i++) {
            x.where(0, 0, 0);
        }
        CHECK.due("13: a wrong number in a full question", x.where(0, 0, 1), BAD);
    }

    /** Promise 14: "Makes the question empty.", however many patterns it has. */
    private static void clearMakesEmpty() {
        for (int patterns = 0; patterns <= 4; patterns++) {
            SixfoldTriples x = withOneTriple();
            for (int i = 0; i < patterns; i++) {
                x.where(32, 33, 34);
            }
            x.clear();
            CHECK.due("14: the old row after " + patterns, x.run(32, 33, 34), BAD);
            CHECK.due("14: no row after " + patterns, x.run(-1, -1, -1), BAD);
            for (int count = 1; count <= 4; count++) {
                CHECK.due("14: counted anew after " + patterns, x.where(0, 0, 33), count);
            }
            CHECK.due("14: full anew after " + patterns, x.where(0, 0, 33), FULL);
            CHECK.due("14: the old variables are gone", x.run(33, -1, -1), 1);
        }
    }

    private static int clear(SixfoldTriples x) {
        x.clear();
        return 0;
    }

    /** Promise 14, for a question that is empty. */
    private static void clearOfAnEmptyQuestion() {
        new Refusals(CHECK, "nothing", Refusals::nothing).due("14: clear()", QuestionEdgesTest::clear, 0);
        Refusals cleared = new Refusals(CHECK, "everything full, but an empty question", x -> {
            Refusals.full(x);
            x.clear();
        });
        cleared.due("14: clear()", QuestionEdgesTest::clear, 0);
    }

    /** Promise 14 changes the question alone: the latest run, the words and the triples stay. */
    private static void clearChangesNothingElse() {
        SixfoldTriples x = Check.withWords(3);
        x.insert(2, 1, 0);
        x.where(32, 1, 33);
        x.run(33, 32, -1);
        x.letter('C');
        x.clear();
        CHECK.due("14: answer(0, 32)", x.answer(0, 32), 2);
        CHECK.due("14: answer(0, 33)", x.answer(0, 33), 0);
        CHECK.due("14: live()", x.live(), 2);
        CHECK.due("14: words()", x.words(), 3);
        CHECK.due("14: size()", x.size(), 1);
        CHECK.due("14: pending()", x.pending(), 1);
        CHECK.due("14: merges()", x.merges(), 0);
        CHECK.due("14: intern()", x.intern(), 2);
    }

    /** Promise 15: "BAD .. when the question has no patterns", whatever the row. */
    private static void emptyQuestionIsBad() {
        for (int first : ROW_NUMBERS) {
            SixfoldTriples x = withOneTriple();
            for (int second : ROW_NUMBERS) {
                for (int third : ROW_NUMBERS) {
                    CHECK.due("15: run(" + first + ", " + second + ", " + third + ") without patterns",
                            x.run(first, second, third), BAD);
                }
            }
        }
    }

    /**
     * Promise 15: "or the row does not have each variable of the question once, and nothing else,
     * before the -1 that fill it up"
     */
    private static void rowsOfEveryQuestion() {
        for (int variables = 0; variables < 8; variables++) {
            for (int first : ROW_NUMBERS) {
                rowsThatBegin(variables, first);
            }
        }
    }

    private static void rowsThatBegin(int variables, int first) {
        SixfoldTriples x = withOneTriple();
        askWith(x, variables);
        for (int second : ROW_NUMBERS) {
            for (int third : ROW_NUMBERS) {
                CHECK.due("15: run(" + first + ", " + second + ", " + third + ") with variables " + variables,
                        x.run(first, second, third), isRowOf(variables, first, second, third) ? 1 : BAD);
            }
        }
    }

    private static boolean isRowOf(int variables, int first, int second, int third) {
        return List.of(RIGHT_ROWS[variables]).contains(first + "," + second + "," + third);
    }

    /** Promise 15: "each variable of the question once", though it stands often in the question. */
    private static void rowsOfRepeatedVariables() {
        SixfoldTriples x = withOneTriple();
        for (int i = 0; i < 4; i++) {
            x.where(33, 33, 33);
        }
        CHECK.due("15: run(33, -1, -1)", x.run(33, -1, -1), 1);
        CHECK.due("15: run(33, 33, -1)", x.run(33, 33, -1), BAD);
        CHECK.due("15: run(33, 33, 33)", x.run(33, 33, 33), BAD);
        CHECK.due("15: run(-1, -1, -1)", x.run(-1, -1, -1), BAD);
    }

    /** Promise 15: "BAD, changing nothing" */
    private static void badRunChangesNothing() {
        int[][] wrong = {{-1, -1, -1}, {32, -1, -1}, {32, 33, -1}, {-1, 32, 33}, {32, -1, 33}, {32, 33, 33},
            {32, 33, 35}, {31, 33, 34}, {32, 33, Integer.MAX_VALUE}, {Integer.MIN_VALUE, 33, 34}};
        Refusals some = new Refusals(CHECK, "a run", Refusals::some);
        Refusals full = new Refusals(CHECK, "a run of everything full", Refusals::full);
        Refusals cleared = new Refusals(CHECK, "a run, then an empty question", x -> {
            Refusals.full(x);
            x.clear();
        });
        Refusals none = new Refusals(CHECK, "no run", Refusals::nothing);
        for (int[] row : wrong) {
            String call = "15: run(" + row[0] + ", " + row[1] + ", " + row[2] + ")";
            some.due(call, x -> run(x, row), BAD);
            full.due(call, x -> run(x, row), BAD);
            cleared.due(call, x -> run(x, row), BAD);
            none.due(call, x -> run(x, row), BAD);
        }
        cleared.due("15: run(32, 33, 34)", x -> x.run(32, 33, 34), BAD);
        none.due("15: run(32, 33, 34)", x -> x.run(32, 33, 34), BAD);
    }

    /** Promise 15: "What follows is about the latest run that was not BAD." */
    private static void onlyTheLatestRunCounts() {
        SixfoldTriples x = Check.withWords(3);
        x.insert(0, 1, 2);
        x.insert(2, 1, 0);
        x.where(32, 1, 33);
        CHECK.due("15: run(33, 32, -1)", x.run(33, 32, -1), 2);
        CHECK.due("15: a BAD one", x.run(32, 33, 34), BAD);
        CHECK.due("16: answer(0, 32) of the one before", x.answer(0, 32), 2);
        CHECK.due("17: live() of the one before", x.live(), 4);
        x.where(33, 0, 34);
        CHECK.due("15: run(32, 33, 34) without answers", x.run(32, 33, 34), 0);
        noAnswer("16: of the run without answers", x);
        CHECK.due("17: live() of it", x.live(), 2);
        x.clear();
        x.where(0, 1, 2);
        CHECK.due("15: run(-1, -1, -1)", x.run(-1, -1, -1), 1);
        noAnswer("16: of the run without variables", x);
        CHECK.due("17: live() of it", x.live(), 0);
    }

    /** Terms: "and where the same variable stands twice or more, the same terms", bound or not yet bound */
    private static void sameVariableTwiceOrMore() {
        int[][] patterns = {{33, 32, 32}, {32, 33, 32}, {32, 32, 33}};
        for (int[] pattern : patterns) {
            SixfoldTriples x = Check.withWords(3);
            for (int i = 0; i < 27; i++) {
                insertUnlessSame(x, pattern, new int[] {i / 9, i / 3 % 3, i % 3});
            }
            x.where(pattern[0], pattern[1], pattern[2]);
            String name = " of the pattern " + pattern[0] + ", " + pattern[1] + ", " + pattern[2];
            CHECK.due("15: 33 first" + name, x.run(33, 32, -1), 3);
            CHECK.due("16: 33 first" + name, x.answer(0, 33), 1);
            CHECK.due("17: 33 first" + name, x.live(), 1 + 3);
            CHECK.due("15: 32 first" + name, x.run(32, 33, -1), 3);
            CHECK.due("17: 32 first" + name, x.live(), 3 + 3);
            x.clear();
            x.where(32, 32, 32);
            CHECK.due("15: three times", x.run(32, -1, -1), 1);
            CHECK.due("16: three times", x.answer(0, 32), 1);
            CHECK.due("17: three times", x.live(), 1);
        }
    }

    /** Only with term 1 where 33 stands, the terms where 32 stands may be the same. */
    private static void insertUnlessSame(SixfoldTriples x, int[] pattern, int[] triple) {
        int single = 0;
        while (pattern[single] != 33) {
            single++;
        }
        boolean same = triple[(single + 1) % 3] == triple[(single + 2) % 3];
        if (!same || triple[single] == 1) {
            x.insert(triple[0], triple[1], triple[2]);
        }
    }

    /** Promise 15: "(A question without variables has one answer, the binding of no variables, or none.)" */
    private static void withoutVariables() {
        SixfoldTriples x = Check.withWords(3);
        for (int count = 1; count <= 4; count++) {
            x.where(0, 1, 2);
            CHECK.due("15: none, of the empty set, with " + count, x.run(-1, -1, -1), 0);
        }
        x.insert(0, 1, 2);
        CHECK.due("15: one, though four patterns have it", x.run(-1, -1, -1), 1);
        noAnswer("16: the binding of no variables", x);
        x.insert(2, 1, 0);
        CHECK.due("15: one, though there are more triples", x.run(-1, -1, -1), 1);
        x.clear();
        x.where(0, 1, 2);
        x.where(2, 1, 0);
        CHECK.due("15: one, of two patterns", x.run(-1, -1, -1), 1);
        x.where(0, 0, 0);
        CHECK.due("15: none, as the third pattern has no triple", x.run(-1, -1, -1), 0);
    }

    /** Promise 15, with an empty dictionary and with an empty present set. */
    private static void withoutWordsOrTriples() {
        for (int words : new int[] {0, 1, 24}) {
            SixfoldTriples x = Check.withWords(words);
            for (int count = 1; count <= 4; count++) {
                x.where(32, 33, 34);
                CHECK.due("15: run with " + words + " words, no triples", x.run(34, 33, 32), 0);
                CHECK.due("17: live() with " + words + " words, no triples", x.live(), 0);
                noAnswer("16: with " + words + " words, no triples", x);
            }
        }
        SixfoldTriples x = withOneTriple();
        x.remove(0, 0, 0);
        x.where(32, 32, 32);
        CHECK.due("15: run when the last triple is out", x.run(32, -1, -1), 0);
        CHECK.due("17: live() when the last triple is out", x.live(), 0);
    }

    /** Promise 15: "as the present set is", which has what is pending and not what is only settled. */
    private static void asThePresentSetIs() {
        SixfoldTriples x = Check.withWords(4);
        x.where(32, 33, 34);
        Check.insertNumbers(x, 0, 2);
        CHECK.due("15: two pending ones", x.run(32, 33, 34), 2);
        x.merge();
        CHECK.due("15: the same two settled", x.run(32, 33, 34), 2);
        Check.removeNumbers(x, 0, 1);
        CHECK.due("15: one of them taken out", x.run(32, 33, 34), 1);
        CHECK.due("16: the one that is left", x.answer(0, 34), 1);
        Check.removeNumbers(x, 1, 2);
        CHECK.due("15: both taken out", x.run(32, 33, 34), 0);
        CHECK.due("10: two are pending still", x.pending(), 2);
        CHECK.due("11: no run merges", x.merges(), 1);
    }

    /** Promise 15, with sixty triples: each has its part in the answers. */
    private static void fullSet() {
        SixfoldTriples x = Check.withWords(4);
        Check.insertNumbers(x, 0, 60);
        for (int i = 0; i < 64; i++) {
            x.clear();
            x.where(i / 16, i / 4 % 4, i % 4);
            CHECK.due("15: number " + i + " of sixty", x.run(-1, -1, -1), i < 60 ? 1 : 0);
        }
        x.clear();
        x.where(32, 33, 34);
        CHECK.due("15: all of them", x.run(32, 33, 34), 60);
        // No triple has 3 and 3 for 32 and 33.
        CHECK.due("17: all of them", x.live(), 4 + 15 + 60);
        for (int k = 0; k < 60; k++) {
            int code = Check.code(x.answer(k, 32), x.answer(k, 33), x.answer(k, 34));
            CHECK.due("16: number " + k + " of all", code, Check.code(k / 16, k / 4 % 4, k % 4));
        }
        noAnswerFrom(x, 60);
        x.where(34, 33, 32);
        x.where(33, 34, 32);
        x.where(32, 34, 33);
        // What is missing is 3, 3 and any other: each of these in three orders, and 3, 3, 3.
        CHECK.due("15: all of them with a full question", x.run(32, 33, 34), 64 - 3 * 3 - 1);
    }

    private static void noAnswerFrom(SixfoldTriples x, int past) {
        for (int k : new int[] {-70, -3, -2, -1, past, past + 1, past + 2, past + 3, Math.max(past, 199), 200, 201}) {
            CHECK.due("16: answer(" + k + ", 32) of " + past, x.answer(k, 32), -1);
        }
        for (int k : Check.FAR_NUMBERS) {
            CHECK.due("16: answer(" + k + ", 32) of " + past, x.answer(k, 32), -1);
        }
    }

    /** Promise 16: "counted from 0; -1 when there is no such answer" */
    private static void answersThatAreNot() {
        for (int count = 0; count <= 24; count++) {
            SixfoldTriples x = Check.withWords(24);
            x.where(32, 5, 7);
            // The run before had more answers, which must not be told any more.
            for (int i = 0; i < 24; i++) {
                x.insert(i, 5, 7);
            }
            CHECK.due("15: 24 answers", x.run(32, -1, -1), 24);
            for (int i = count; i < 24; i++) {
                x.remove(i, 5, 7);
            }
            CHECK.due("15: " + count + " answers", x.run(32, -1, -1), count);
            for (int k = 0; k < 30; k++) {
                CHECK.due("16: answer(" + k + ", 32) of " + count, x.answer(k, 32), k < count ? k : -1);
            }
            noAnswerFrom(x, count);
        }
    }

    /** Promise 16: "-1 when .. k is 200 or more", with 199, 200 and 201 answers and some more. */
    private static void answersFrom200() {
        for (int more : new int[] {3, 4, 5, 6, 14}) {
            List<int[]> due = new ArrayList<>();
            for (int variable = 32; variable <= 34; variable++) {
                SixfoldTriples x = withAnswers(more, due);
                CHECK.due("15: run(32, 33, 34)", x.run(32, 33, 34), 196 + more);
                for (int k = -5; k < 230; k++) {
                    int want = k >= 0 && k < due.size() && k < 200 ? due.get(k)[variable - 32] : -1;
                    CHECK.due("16: answer(" + k + ", " + variable + ") of " + due.size(), x.answer(k, variable), want);
                }
                noAnswerFrom(x, 200);
            }
        }
    }

    /** 14 ways to word 2 and 14 on from it, some ways to word 3 and one on from it. */
    private static SixfoldTriples withAnswers(int more, List<int[]> due) {
        SixfoldTriples x = Check.withWords(24);
        x.where(32, 0, 33);
        x.where(33, 1, 34);
        x.insert(3, 1, 23);
        due.clear();
        for (int i = 0; i < 14; i++) {
            x.insert(i, 0, 2);
            x.insert(2, 1, 5 + i);
            for (int k = 0; k < 14; k++) {
                due.add(new int[] {i, 2, 5 + k});
            }
            if (i < more) {
                x.insert(i, 0, 3);
                due.add(new int[] {i, 3, 23});
            }
        }
        return x;
    }

    /** Promise 15: "how many answers there are", also when they are more than promise 16 tells. */
    private static void mostAnswers() {
        SixfoldTriples x = Check.withWords(24);
        for (int i = 0; i < 24; i++) {
            x.insert(i, 23, 23);
        }
        x.where(32, 23, 23);
        x.where(33, 23, 23);
        x.where(34, 23, 23);
        CHECK.due("15: run(33, 34, 32)", x.run(33, 34, 32), 24 * 24 * 24);
        CHECK.due("17: live()", x.live(), 24 + 24 * 24 + 24 * 24 * 24);
        CHECK.due("16: answer(199, 33)", x.answer(199, 33), 0);
        CHECK.due("16: answer(199, 34)", x.answer(199, 34), 199 / 24);
        CHECK.due("16: answer(199, 32)", x.answer(199, 32), 199 % 24);
        for (int variable = 32; variable <= 34; variable++) {
            CHECK.due("16: answer(200, " + variable + ")", x.answer(200, variable), -1);
            CHECK.due("16: answer(13823, " + variable + ")", x.answer(24 * 24 * 24 - 1, variable), -1);
        }
    }

    /**
     * Promise 16: "a variable (32, 33 or 34); -1 when .. the question of that run did not have the
     * variable"
     */
    private static void variablesThatAreNot() {
        for (int variables = 0; variables < 8; variables++) {
            SixfoldTriples x = withOneTriple();
            askWith(x, 7);
            run(x, ROWS[7]);
            x.clear();
            askWith(x, variables);
            CHECK.due("15: run with variables " + variables, run(x, ROWS[variables]), 1);
            for (int number = -70; number <= 110; number++) {
                CHECK.due("16: answer(0, " + number + ") with variables " + variables, x.answer(0, number),
                        has(variables, number) ? 0 : -1);
            }
            for (int number : Check.FAR_NUMBERS) {
                CHECK.due("16: answer(0, " + number + ") with variables " + variables, x.answer(0, number), -1);
            }
        }
    }

    /** Promise 16: "the question of that run", not the question as it is now. */
    private static void variablesOfThatRun() {
        SixfoldTriples x = withOneTriple();
        x.where(33, 0, 0);
        x.run(33, -1, -1);
        x.where(32, 34, 0);
        CHECK.due("16: 33, which that question had", x.answer(0, 33), 0);
        CHECK.due("16: 32, which came later", x.answer(0, 32), -1);
        CHECK.due("16: 34, which came later", x.answer(0, 34), -1);
        x.clear();
        CHECK.due("16: 33, when the question is empty", x.answer(0, 33), 0);
        x.where(32, 0, 0);
        CHECK.due("16: 33, when the question lacks it", x.answer(0, 33), 0);
        CHECK.due("16: 32, when only the question has it", x.answer(0, 32), -1);
    }

    /** Promise 16: "-1 when .. there was no run", though there is a question with answers. */
    private static void noRun() {
        SixfoldTriples x = withOneTriple();
        noAnswer("16: without a question", x);
        x.where(32, 33, 34);
        noAnswer("16: before a run", x);
        CHECK.due("15: a BAD run", x.run(32, 33, -1), BAD);
        noAnswer("16: after a BAD run alone", x);
        noAnswerFrom(x, 0);
        CHECK.due("15: a run", x.run(32, 33, 34), 1);
        CHECK.due("16: after it", x.answer(0, 32), 0);
    }

    /** Promise 17: "0 when there was none" */
    private static void liveOfNoRun() {
        SixfoldTriples x = withOneTriple();
        CHECK.due("17: live() without a question", x.live(), 0);
        x.where(32, 33, 34);
        CHECK.due("17: live() before a run", x.live(), 0);
        x.run(32, 33, -1);
        CHECK.due("17: live() after a BAD run alone", x.live(), 0);
        x.run(32, 33, 34);
        CHECK.due("17: live() after a run", x.live(), 3);
    }

    /** Terms: "(i >= 1)": the binding of no variables is not counted, though it is an answer. */
    private static void liveOfNoVariables() {
        SixfoldTriples x = withOneTriple();
        x.where(0, 0, 0);
        CHECK.due("15: run(-1, -1, -1)", x.run(-1, -1, -1), 1);
        CHECK.due("17: live() of it", x.live(), 0);
    }

    /** Promise 17: "of the first 1, 2, .. variables of its row, all together", one for each here. */
    private static void liveFromTheFirstVariable() {
        for (int variables = 0; variables < 8; variables++) {
            SixfoldTriples x = withOneTriple();
            askWith(x, variables);
            run(x, ROWS[variables]);
            CHECK.due("17: live() with variables " + variables, x.live(), Integer.bitCount(variables));
        }
        SixfoldTriples x = Check.withWords(2);
        x.insert(0, 0, 0);
        x.where(32, 0, 0);
        x.where(1, 1, 1);
        CHECK.due("15: a pattern without variables has no triple", x.run(32, -1, -1), 0);
        CHECK.due("17: then no binding is live", x.live(), 0);
        x.insert(1, 1, 1);
        CHECK.due("15: now it has one", x.run(32, -1, -1), 1);
        CHECK.due("17: now one is live", x.live(), 1);
    }

    /**
     * Terms: "and for every pattern that has one of these i variables", but for no pattern that has
     * only later ones
     */
    private static void liveBeforeAVariableIsBound() {
        String[] rows = RIGHT_ROWS[7];
        for (String text : rows) {
            String[] row = text.split(",");
            for (int place = 0; place < 3; place++) {
                SixfoldTriples x = Check.withWords(2);
                x.insert(0, 0, 0);
                for (int i = 0; i < 3; i++) {
                    x.where(Integer.parseInt(row[i]), 0, i == place ? 1 : 0);
                }
                String name = " with row " + text + ", whose variable " + place + " has no triple";
                CHECK.due("15: run" + name, x.run(Integer.parseInt(row[0]), Integer.parseInt(row[1]),
                        Integer.parseInt(row[2])), 0);
                CHECK.due("17: live()" + name, x.live(), place);
            }
        }
    }
}
