/** Promises 13 to 17: where, clear, run, answer, live. */
public final class QuestionTest {
    private static final int BAD = SixfoldTriples.BAD;
    private static final int FULL = SixfoldTriples.FULL;
    private static final int[] ROW_NUMBERS =
            {-1, -2, 0, 1, 31, 32, 33, 34, 35, Integer.MAX_VALUE, Integer.MIN_VALUE};
    private static final Check CHECK = new Check();

    public static void main(String[] args) {
        whereCounts();
        whereWrong();
        clear();
        rowsOfEveryQuestion();
        badRunChangesNothing();
        withoutVariables();
        repeatedVariables();
        answersInTheOrderOfTheRow();
        answersAreOfThatRun();
        answerWrong();
        manyAnswers();
        liveBindings();
        liveWithFixedPatterns();
        sixtyTriples();
        CHECK.end();
    }

    private static void whereCounts() {
        SixfoldTriples x = Check.withWords(2);
        CHECK.due("13: first", x.where(0, 1, 32), 1);
        CHECK.due("13: second", x.where(33, 34, 32), 2);
        CHECK.due("13: third", x.where(0, 0, 0), 3);
        CHECK.due("13: fourth, like the third", x.where(0, 0, 0), 4);
        CHECK.due("13: fifth", x.where(0, 0, 0), FULL);
        CHECK.due("13: fifth again", x.where(32, 32, 32), FULL);
        CHECK.due("13: a wrong fifth", x.where(2, 0, 0), BAD);
        CHECK.due("13: none was added", x.run(32, 33, 34), 0);
    }

    private static void whereWrong() {
        SixfoldTriples x = Check.withWords(3);
        int[] wrong = {-1, 3, 23, 24, 31, 35, 64, Integer.MAX_VALUE, Integer.MIN_VALUE};
        for (int number : wrong) {
            CHECK.due("13: subject " + number, x.where(number, 0, 32), BAD);
            CHECK.due("13: verb " + number, x.where(0, number, 32), BAD);
            CHECK.due("13: object " + number, x.where(0, 32, number), BAD);
        }
        CHECK.due("13: nothing was added", x.where(0, 0, 0), 1);
        Check.take(x, "new");
        CHECK.due("13: a term of a later word", x.where(3, 3, 3), 2);
    }

    private static void clear() {
        SixfoldTriples x = Check.withWords(2);
        x.insert(0, 1, 0);
        x.clear();
        CHECK.due("14: an empty one stays empty", x.run(-1, -1, -1), BAD);
        x.where(32, 1, 1);
        x.where(32, 33, 34);
        x.clear();
        CHECK.due("14: no patterns", x.run(32, 33, 34), BAD);
        CHECK.due("14: no patterns, no row", x.run(-1, -1, -1), BAD);
        CHECK.due("14: counted anew", x.where(33, 1, 0), 1);
        CHECK.due("14: only the new one", x.run(33, -1, -1), 1);
        CHECK.due("14: only the new one", x.answer(0, 33), 0);
        CHECK.due("14: room for three more", x.where(33, 1, 0), 2);
        CHECK.due("14: room for two more", x.where(33, 1, 0), 3);
        CHECK.due("14: room for one more", x.where(33, 1, 0), 4);
        x.clear();
        CHECK.due("14: keeps the run", x.answer(0, 33), 0);
        CHECK.due("14: keeps the run", x.live(), 1);
    }

    private static void rowsOfEveryQuestion() {
        for (int variables = 0; variables < 8; variables++) {
            for (int first : ROW_NUMBERS) {
                rowsThatBegin(variables, first);
            }
        }
    }

    private static void rowsThatBegin(int variables, int first) {
        SixfoldTriples x = Check.withWords(1);
        x.insert(0, 0, 0);
        addPatternsWith(x, variables);
        for (int second : ROW_NUMBERS) {
            for (int third : ROW_NUMBERS) {
                CHECK.due("15: run(" + first + ", " + second + ", " + third + ") with variables " + variables,
                        x.run(first, second, third), isRowOf(variables, first, second, third) ? 1 : BAD);
            }
        }
    }

    /** One pattern for each variable of the set, and one without. */
    private static void addPatternsWith(SixfoldTriples x, int variables) {
        x.where(0, 0, 0);
        for (int i = 0; i < 3; i++) {
            if ((variables >> i & 1) == 1) {
                x.where(i == 0 ? 32 : 0, i == 1 ? 33 : 0, i == 2 ? 34 : 0);
            }
        }
    }

    /** Tried by all rows that are right: every order of the set's variables, filled up with -1. */
    private static boolean isRowOf(int variables, int a, int b, int c) {
        String row = "," + a + "," + b + "," + c;
        String[][] rows = {
            {",-1,-1,-1"},
            {",32,-1,-1"},
            {",33,-1,-1"},
            {",32,33,-1", ",33,32,-1"},
            {",34,-1,-1"},
            {",32,34,-1", ",34,32,-1"},
            {",33,34,-1", ",34,33,-1"},
            {",32,33,34", ",32,34,33", ",33,32,34", ",33,34,32", ",34,32,33", ",34,33,32"}};
        for (String right : rows[variables]) {
            if (right.equals(row)) {
                return true;
            }
        }
        return false;
    }

    private static void badRunChangesNothing() {
        SixfoldTriples x = Check.withWords(3);
        x.insert(0, 1, 2);
        x.insert(2, 1, 0);
        x.where(32, 1, 33);
        CHECK.due("15: run", x.run(33, 32, -1), 2);
        CHECK.due("15: BAD", x.run(32, -1, -1), BAD);
        CHECK.due("15: BAD", x.run(32, 33, 34), BAD);
        x.clear();
        CHECK.due("15: BAD", x.run(32, 33, -1), BAD);
        CHECK.due("16: the run before", x.answer(0, 33), 0);
        CHECK.due("16: the run before", x.answer(0, 32), 2);
        CHECK.due("16: the run before", x.answer(1, 33), 2);
        CHECK.due("17: the run before", x.live(), 4);
    }

    private static void withoutVariables() {
        SixfoldTriples x = Check.withWords(3);
        x.insert(0, 1, 2);
        x.insert(2, 1, 0);
        x.where(0, 1, 2);
        CHECK.due("15: there", x.run(-1, -1, -1), 1);
        CHECK.due("16: no variable", x.answer(0, 32), -1);
        CHECK.due("16: no variable", x.answer(0, 33), -1);
        CHECK.due("16: no variable", x.answer(0, 34), -1);
        CHECK.due("17: none", x.live(), 0);
        x.where(2, 1, 0);
        CHECK.due("15: both there", x.run(-1, -1, -1), 1);
        x.where(1, 1, 0);
        CHECK.due("15: the third not", x.run(-1, -1, -1), 0);
        x.insert(1, 1, 0);
        CHECK.due("15: now it is", x.run(-1, -1, -1), 1);
        x.remove(0, 1, 2);
        CHECK.due("15: now the first is not", x.run(-1, -1, -1), 0);
    }

    private static void repeatedVariables() {
        SixfoldTriples x = Check.withWords(3);
        x.insert(0, 0, 1);
        x.insert(1, 2, 1);
        x.insert(2, 1, 1);
        x.insert(2, 2, 2);
        int[][] patterns = {{32, 32, 33}, {32, 33, 32}, {33, 32, 32}, {32, 32, 32}};
        int[][] first = {{0, 1}, {1, 2}, {1, 2}, {2, -1}};
        for (int i = 0; i < patterns.length; i++) {
            x.clear();
            x.where(patterns[i][0], patterns[i][1], patterns[i][2]);
            int found = x.run(32, i < 3 ? 33 : -1, -1);
            CHECK.due("15: repeated, how many of " + i, found, i < 3 ? 2 : 1);
            CHECK.due("16: repeated, 32 of " + i, x.answer(0, 32), first[i][0]);
            CHECK.due("16: repeated, 33 of " + i, x.answer(0, 33), first[i][1]);
            CHECK.due("17: repeated, live of " + i, x.live(), i < 3 ? 4 : 1);
        }
    }

    private static void answersInTheOrderOfTheRow() {
        SixfoldTriples x = Check.withWords(4);
        int[][] triples = {{0, 3, 2}, {1, 0, 3}, {3, 1, 0}, {1, 3, 0}, {3, 3, 0}, {0, 1, 2}};
        for (int[] triple : triples) {
            x.insert(triple[0], triple[1], triple[2]);
        }
        x.where(32, 33, 34);
        int[][] rows = {{32, 33, 34}, {32, 34, 33}, {33, 32, 34}, {33, 34, 32}, {34, 32, 33}, {34, 33, 32}};
        for (int way = 0; way < 6; way++) {
            CHECK.due("15: run", x.run(rows[way][0], rows[way][1], rows[way][2]), 6);
            for (int k = 0; k < 6; k++) {
                int code = Check.code(x.answer(k, 32), x.answer(k, 33), x.answer(k, 34));
                CHECK.due("16: as triple(" + way + ", " + k + ")", code, x.triple(way, k));
            }
        }
        CHECK.due("15: the last row once more", x.run(34, 33, 32), 6);
        int[][] sorted = {{3, 1, 0}, {1, 3, 0}, {3, 3, 0}, {0, 1, 2}, {0, 3, 2}, {1, 0, 3}};
        for (int k = 0; k < 6; k++) {
            for (int i = 0; i < 3; i++) {
                CHECK.due("16: answer(" + k + ", " + (32 + i) + ")", x.answer(k, 32 + i), sorted[k][i]);
            }
        }
    }

    private static void answersAreOfThatRun() {
        SixfoldTriples x = Check.withWords(3);
        x.insert(1, 0, 2);
        x.where(32, 0, 33);
        CHECK.due("15: run", x.run(32, 33, -1), 1);
        x.remove(1, 0, 2);
        x.insert(0, 0, 0);
        x.where(34, 34, 34);
        x.merge();
        CHECK.due("16: as the set was", x.answer(0, 32), 1);
        CHECK.due("16: as the set was", x.answer(0, 33), 2);
        CHECK.due("16: the question then lacked it", x.answer(0, 34), -1);
        CHECK.due("17: as the set was", x.live(), 2);
        CHECK.due("15: run anew", x.run(34, 32, 33), 1);
        CHECK.due("16: anew", x.answer(0, 32), 0);
        CHECK.due("16: anew", x.answer(0, 34), 0);
        CHECK.due("17: anew", x.live(), 3);
        x.clear();
        x.where(33, 0, 0);
        CHECK.due("15: fewer variables", x.run(33, -1, -1), 1);
        CHECK.due("16: fewer variables", x.answer(0, 32), -1);
        CHECK.due("16: fewer variables", x.answer(0, 33), 0);
        CHECK.due("16: fewer variables", x.answer(0, 34), -1);
        x.where(33, 1, 1);
        CHECK.due("15: none", x.run(33, -1, -1), 0);
        CHECK.due("16: none", x.answer(0, 33), -1);
        CHECK.due("17: none", x.live(), 0);
    }

    private static void answerWrong() {
        SixfoldTriples x = Check.withWords(2);
        x.insert(0, 1, 0);
        x.insert(1, 1, 0);
        x.where(32, 1, 0);
        CHECK.due("16: no run", x.answer(0, 32), -1);
        CHECK.due("17: no run", x.live(), 0);
        x.run(32, -1, -1);
        CHECK.due("16: the last", x.answer(1, 32), 1);
        int[] wrong = {-1, 2, 199, 200, 201, Integer.MAX_VALUE, Integer.MIN_VALUE};
        for (int k : wrong) {
            CHECK.due("16: answer(" + k + ", 32)", x.answer(k, 32), -1);
        }
        int[] wrongVariables = {-1, 0, 1, 31, 33, 34, 35, Integer.MAX_VALUE, Integer.MIN_VALUE};
        for (int variable : wrongVariables) {
            CHECK.due("16: answer(0, " + variable + ")", x.answer(0, variable), -1);
        }
    }

    private static void manyAnswers() {
        SixfoldTriples x = Check.withWords(24);
        for (int i = 0; i < 24; i++) {
            x.insert(i, 5, 7);
        }
        x.where(32, 5, 7);
        x.where(33, 5, 7);
        CHECK.due("15: pairs", x.run(33, 32, -1), 24 * 24);
        CHECK.due("17: pairs", x.live(), 24 + 24 * 24);
        CHECK.due("16: the last that is told", x.answer(199, 32), 199 % 24);
        CHECK.due("16: the last that is told", x.answer(199, 33), 199 / 24);
        CHECK.due("16: 200 is not told", x.answer(200, 32), -1);
        CHECK.due("16: 575 is not told", x.answer(575, 33), -1);
        x.where(34, 5, 7);
        CHECK.due("15: threes", x.run(34, 33, 32), 24 * 24 * 24);
        CHECK.due("17: threes", x.live(), 24 + 24 * 24 + 24 * 24 * 24);
        for (int k = 0; k < 200; k++) {
            CHECK.due("16: threes, 32", x.answer(k, 32), k % 24);
        }
        for (int k = 23; k < 200; k += 11) {
            CHECK.due("16: threes, 33", x.answer(k, 33), k / 24);
            CHECK.due("16: threes, 34", x.answer(k, 34), 0);
        }
        CHECK.due("16: 200 is not told", x.answer(200, 34), -1);
    }

    private static void liveBindings() {
        SixfoldTriples x = Check.withWords(4);
        x.insert(0, 3, 1);
        x.insert(0, 3, 2);
        x.insert(1, 3, 2);
        x.where(32, 3, 33);
        x.where(33, 3, 34);
        CHECK.due("15: run", x.run(32, 33, 34), 1);
        CHECK.due("17: 0, 1 / 0-1 / 0-1-2", x.live(), 4);
        CHECK.due("15: run", x.run(34, 32, 33), 1);
        CHECK.due("17: 1, 2 / 1-0, 1-1, 2-0, 2-1 / 2-0-1", x.live(), 7);
        CHECK.due("15: run", x.run(33, 32, 34), 1);
        CHECK.due("17: 1 / 1-0 / 1-0-2", x.live(), 3);
        x.clear();
        x.where(32, 3, 2);
        x.where(33, 0, 0);
        CHECK.due("15: the second pattern has no triple", x.run(32, 33, -1), 0);
        CHECK.due("17: it does not count before 33 is bound", x.live(), 2);
        CHECK.due("15: the other way", x.run(33, 32, -1), 0);
        CHECK.due("17: the other way", x.live(), 0);
    }

    private static void liveWithFixedPatterns() {
        SixfoldTriples x = Check.withWords(3);
        x.insert(0, 1, 2);
        x.insert(1, 1, 2);
        x.where(32, 1, 2);
        x.where(0, 1, 2);
        CHECK.due("15: the fixed one holds", x.run(32, -1, -1), 2);
        CHECK.due("17: the fixed one holds", x.live(), 2);
        x.where(2, 1, 2);
        CHECK.due("15: a fixed one does not", x.run(32, -1, -1), 0);
        CHECK.due("17: a fixed one does not", x.live(), 0);
        CHECK.due("16: a fixed one does not", x.answer(0, 32), -1);
    }

    private static void sixtyTriples() {
        SixfoldTriples x = Check.withWords(4);
        for (int i = 0; i < 60; i++) {
            x.insert(i / 16, i / 4 % 4, i % 4);
        }
        x.where(32, 33, 34);
        CHECK.due("15: all", x.run(34, 33, 32), 60);
        CHECK.due("17: all", x.live(), 4 + 16 + 60);
        CHECK.due("16: the last", x.answer(59, 32), 2);
        CHECK.due("16: the last", x.answer(59, 33), 3);
        CHECK.due("16: the last", x.answer(59, 34), 3);
        x.clear();
        x.where(3, 2, 3);
        CHECK.due("15: the sixtieth", x.run(-1, -1, -1), 1);
        x.where(3, 3, 0);
        CHECK.due("15: the one that is not there", x.run(-1, -1, -1), 0);
        x.clear();
        x.where(0, 2, 33);
        x.where(33, 3, 34);
        x.where(34, 32, 3);
        CHECK.due("15: no 3, 3, x", x.run(32, 33, 34), 3 * (4 + 4 + 4 + 3));
    }
}
