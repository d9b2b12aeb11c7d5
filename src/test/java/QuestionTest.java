/** Promises 13 to 17, with ordinary questions; their edges are in QuestionEdgesTest. */
public final class QuestionTest {
    private static final Check CHECK = new Check();

    public static void main(String[] args) {
        whereCounts();
        repeatedVariables();
        answersInTheOrderOfTheRow();
        answersAreOfThatRun();
        runForgetsTheRunBefore();
        liveBindings();
        manyTriples();
        CHECK.end();
    }

    private static void whereCounts() {
        SixfoldTriples x = Check.withWords(2);
        CHECK.due("13: first", x.where(0, 1, 32), 1);
        CHECK.due("13: second", x.where(33, 34, 32), 2);
        CHECK.due("13: third", x.where(0, 0, 0), 3);
        CHECK.due("13: fourth, like the third", x.where(0, 0, 0), 4);
        CHECK.due("15: the four of them", x.run(32, 33, 34), 0);
    }

    private static void repeatedVariables() {
        SixfoldTriples x = Check.withWords(3);
        x.insert(0, 0, 1);
        x.insert(1, 2, 1);
        x.insert(2, 1, 1);
        x.insert(2, 2, 2);
        int[][] patterns = {{32, 32, 33}, {32, 33, 32}, {33, 32, 32}, {32, 32, 32}};
        int[][] first = {{0, 1}, {1, 2}, {1, 2}, {2, -1}};
        for (int i = 0; i < patterns.length; i++) {
            x.clear();
            x.where(patterns[i][0], patterns[i][1], patterns[i][2]);
            int found = x.run(32, i < 3 ? 33 : -1, -1);
            CHECK.due("15: repeated, how many of " + i, found, i < 3 ? 2 : 1);
            CHECK.due("16: repeated, 32 of " + i, x.answer(0, 32), first[i][0]);
            CHECK.due("16: repeated, 33 of " + i, x.answer(0, 33), first[i][1]);
            CHECK.due("17: repeated, live of " + i, x.live(), i < 3 ? 4 : 1);
        }
    }

    private static void answersInTheOrderOfTheRow() {
        SixfoldTriples x = Check.withWords(4);
        int[][] triples = {{0, 3, 2}, {1, 0, 3}, {3, 1, 0}, {1, 3, 0}, {3, 3, 0}, {0, 1, 2}};
        for (int[] triple : triples) {
            x.insert(triple[0], triple[1], triple[2]);
        }
        x.where(32, 33, 34);
        int[][] rows = {{32, 33, 34}, {32, 34, 33}, {33, 32, 34}, {33, 34, 32}, {34, 32, 33}, {34, 33, 32}};
        for (int way = 0; way < 6; way++) {
            CHECK.due("15: run", x.run(rows[way][0], rows[way][1], rows[way][2]), 6);
            for (int k = 0; k < 6; k++) {
                int code = Check.code(x.answer(k, 32), x.answer(k, 33), x.answer(k, 34));
                CHECK.due("16: as triple(" + way + ", " + k + ")", code, x.triple(way, k));
            }
        }
        CHECK.due("15: the last row once more", x.run(34, 33, 32), 6);
        int[][] sorted = {{3, 1, 0}, {1, 3, 0}, {3, 3, 0}, {0, 1, 2}, {0, 3, 2}, {1, 0, 3}};
        for (int k = 0; k < 6; k++) {
            for (int i = 0; i < 3; i++) {
                CHECK.due("16: answer(" + k + ", " + (32 + i) + ")", x.answer(k, 32 + i), sorted[k][i]);
            }
        }
    }

    private static void answersAreOfThatRun() {
        SixfoldTriples x = Check.withWords(3);
        x.insert(1, 0, 2);
        x.where(32, 0, 33);
        CHECK.due("15: run", x.run(32, 33, -1), 1);
        x.remove(1, 0, 2);
        x.insert(0, 0, 0);
        x.where(34, 34, 34);
        x.merge();
        CHECK.due("16: as the set was", x.answer(0, 32), 1);
        CHECK.due("16: as the set was", x.answer(0, 33), 2);
        CHECK.due("16: the question then lacked it", x.answer(0, 34), -1);
        CHECK.due("17: as the set was", x.live(), 2);
        CHECK.due("15: run anew", x.run(34, 32, 33), 1);
        CHECK.due("16: anew", x.answer(0, 32), 0);
        CHECK.due("16: anew", x.answer(0, 34), 0);
        CHECK.due("17: anew", x.live(), 3);
        x.clear();
        x.where(33, 0, 0);
        CHECK.due("15: fewer variables", x.run(33, -1, -1), 1);
        CHECK.due("16: fewer variables", x.answer(0, 32), -1);
        CHECK.due("16: fewer variables", x.answer(0, 33), 0);
        CHECK.due("16: fewer variables", x.answer(0, 34), -1);
        x.where(33, 1, 1);
        CHECK.due("15: none", x.run(33, -1, -1), 0);
        CHECK.due("16: none", x.answer(0, 33), -1);
        CHECK.due("17: none", x.live(), 0);
    }

    private static void runForgetsTheRunBefore() {
        for (int before = 0; before < 24; before++) {
            SixfoldTriples x = Check.withWords(24);
            int after = (before + 7) % 24;
            x.where(32, 33, 34);
            x.insert(before, before, before);
            CHECK.due("15: run before", x.run(32, 33, 34), 1);
            x.remove(before, before, before);
            x.insert(after, after, after);
            CHECK.due("15: run after " + before, x.run(32, 33, 34), 1);
            CHECK.due("17: live() after " + before, x.live(), 3);
            for (int variable = 32; variable <= 34; variable++) {
                CHECK.due("16: answer(0, " + variable + ") after " + before, x.answer(0, variable), after);
            }
        }
    }

    private static void liveBindings() {
        SixfoldTriples x = Check.withWords(4);
        x.insert(0, 3, 1);
        x.insert(0, 3, 2);
        x.insert(1, 3, 2);
        x.where(32, 3, 33);
        x.where(33, 3, 34);
        CHECK.due("15: run", x.run(32, 33, 34), 1);
        CHECK.due("17: 0, 1 / 0-1 / 0-1-2", x.live(), 4);
        CHECK.due("15: run", x.run(34, 32, 33), 1);
        CHECK.due("17: 1, 2 / 1-0, 1-1, 2-0, 2-1 / 2-0-1", x.live(), 7);
        CHECK.due("15: run", x.run(33, 32, 34), 1);
        CHECK.due("17: 1 / 1-0 / 1-0-2", x.live(), 3);
        x.clear();
        x.where(32, 3, 2);
        x.where(33, 0, 0);
        CHECK.due("15: the second pattern has no triple", x.run(32, 33, -1), 0);
        CHECK.due("17: it does not count before 33 is bound", x.live(), 2);
        CHECK.due("15: the other way", x.run(33, 32, -1), 0);
        CHECK.due("17: the other way", x.live(), 0);
    }

    private static void manyTriples() {
        SixfoldTriples x = Check.withWords(4);
        Check.insertNumbers(x, 0, 60);
        x.where(0, 2, 33);
        x.where(33, 3, 34);
        x.where(34, 32, 3);
        CHECK.due("15: no 3, 3, x", x.run(32, 33, 34), 3 * (4 + 4 + 4 + 3));
    }
}
