import java.util.Arrays;

/** Promises 6 to 12: insert, remove, merge, size, pending, merges, triple. */
public final class TripleSetTest {
    private static final int[] WRONG_TERMS =
            {-1, 4, 5, 23, 24, 31, 32, 33, 34, 64, Integer.MAX_VALUE, Integer.MIN_VALUE};
    private static final int[][] PARTS_OF_WAYS =
            {{0, 1, 2}, {0, 2, 1}, {1, 0, 2}, {1, 2, 0}, {2, 0, 1}, {2, 1, 0}};
    private static final Check CHECK = new Check();

    public static void main(String[] args) {
        insertAndRemove();
        partsAreNotMixedUp();
        wrongTerms();
        fullSet();
        mergeBeforeTheThirteenthChange();
        nothingMergedWithoutChange();
        mergeBeforeAChangeThatWouldUndo();
        pendingCountsTheDifference();
        mergeByHand();
        wrongTriples();
        sixOrders();
        CHECK.end();
    }

    private static void state(String what, SixfoldTriples x, int size, int pending, int merges) {
        CHECK.due(what + ": size()", x.size(), size);
        CHECK.due(what + ": pending()", x.pending(), pending);
        CHECK.due(what + ": merges()", x.merges(), merges);
    }

    /** The i-th of the 64 triples of four terms. */
    private static int insertNumber(SixfoldTriples x, int i) {
        return x.insert(i / 16, i / 4 % 4, i % 4);
    }

    private static int removeNumber(SixfoldTriples x, int i) {
        return x.remove(i / 16, i / 4 % 4, i % 4);
    }

    private static void insertAndRemove() {
        SixfoldTriples x = Check.withWords(4);
        CHECK.due("7: remove from none", x.remove(1, 2, 3), 0);
        CHECK.due("6: insert", x.insert(1, 2, 3), 1);
        state("6", x, 1, 1, 0);
        CHECK.due("6: insert again", x.insert(1, 2, 3), 0);
        state("6 again", x, 1, 1, 0);
        CHECK.due("7: remove", x.remove(1, 2, 3), 1);
        state("7", x, 0, 0, 0);
        CHECK.due("7: remove again", x.remove(1, 2, 3), 0);
        state("7 again", x, 0, 0, 0);
        CHECK.due("6: insert after remove", x.insert(1, 2, 3), 1);
        state("6 after 7", x, 1, 1, 0);
    }

    private static void partsAreNotMixedUp() {
        SixfoldTriples x = Check.withWords(4);
        x.insert(1, 2, 3);
        CHECK.due("7: remove(3, 2, 1)", x.remove(3, 2, 1), 0);
        CHECK.due("7: remove(2, 1, 3)", x.remove(2, 1, 3), 0);
        CHECK.due("6: insert(1, 3, 2)", x.insert(1, 3, 2), 1);
        CHECK.due("6: insert(3, 1, 2)", x.insert(3, 1, 2), 1);
        CHECK.due("9: size()", x.size(), 3);
    }

    private static void wrongTerms() {
        SixfoldTriples x = Check.withWords(4);
        x.insert(0, 0, 0);
        for (int term : WRONG_TERMS) {
            CHECK.due("6: subject " + term, x.insert(term, 0, 0), SixfoldTriples.BAD);
            CHECK.due("6: verb " + term, x.insert(0, term, 0), SixfoldTriples.BAD);
            CHECK.due("6: object " + term, x.insert(0, 0, term), SixfoldTriples.BAD);
            CHECK.due("7: subject " + term, x.remove(term, 0, 0), SixfoldTriples.BAD);
            CHECK.due("7: verb " + term, x.remove(0, term, 0), SixfoldTriples.BAD);
            CHECK.due("7: object " + term, x.remove(0, 0, term), SixfoldTriples.BAD);
        }
        state("wrong terms", x, 1, 1, 0);
        Check.take(x, "new");
        CHECK.due("6: a term of a later word", x.insert(4, 4, 4), 1);
    }

    private static void fullSet() {
        SixfoldTriples x = Check.withWords(4);
        for (int i = 0; i < 60; i++) {
            CHECK.due("6: insert number " + i, insertNumber(x, i), 1);
            CHECK.due("10: pending()", x.pending(), i % 12 + 1);
            CHECK.due("11: merges()", x.merges(), i / 12);
        }
        for (int i = 60; i < 64; i++) {
            CHECK.due("6: insert number " + i, insertNumber(x, i), SixfoldTriples.FULL);
            CHECK.due("7: remove number " + i, removeNumber(x, i), 0);
        }
        CHECK.due("6: insert one that is there", insertNumber(x, 59), 0);
        CHECK.due("6: wrong term when full", x.insert(0, 0, 4), SixfoldTriples.BAD);
        state("full", x, 60, 12, 4);
        CHECK.due("7: remove when full", removeNumber(x, 30), 1);
        state("full and one taken", x, 59, 1, 5);
        CHECK.due("6: room again", insertNumber(x, 63), 1);
        CHECK.due("6: full again", insertNumber(x, 30), SixfoldTriples.FULL);
        state("full again", x, 60, 2, 5);
        CHECK.due("12: triple(0, 59)", x.triple(0, 59), Check.code(3, 3, 3));
        CHECK.due("12: triple(0, 60)", x.triple(0, 60), -1);
        emptyAgain(x);
    }

    private static void emptyAgain(SixfoldTriples x) {
        CHECK.due("8: merge()", x.merge(), 2);
        int taken = 0;
        for (int i = 0; i < 64; i++) {
            boolean there = i < 60 && i != 30 || i == 63;
            CHECK.due("7: remove number " + i, removeNumber(x, i), there ? 1 : 0);
            taken += there ? 1 : 0;
            state("after remove number " + i, x, 60 - taken, (taken - 1) % 12 + 1, 6 + (taken - 1) / 12);
        }
        CHECK.due("12: triple(5, 0)", x.triple(5, 0), -1);
    }

    private static void mergeBeforeTheThirteenthChange() {
        SixfoldTriples x = Check.withWords(4);
        for (int i = 0; i < 11; i++) {
            insertNumber(x, i);
        }
        state("11 pending", x, 11, 11, 0);
        insertNumber(x, 11);
        state("12 pending", x, 12, 12, 0);
        insertNumber(x, 12);
        state("13th insert", x, 13, 1, 1);
        for (int i = 0; i < 11; i++) {
            removeNumber(x, i);
        }
        state("12 pending by both", x, 2, 12, 1);
        removeNumber(x, 11);
        state("13th by remove", x, 1, 1, 2);
        CHECK.due("8: merge()", x.merge(), 1);
        state("merged", x, 1, 0, 3);
    }

    private static void nothingMergedWithoutChange() {
        SixfoldTriples x = Check.withWords(4);
        for (int i = 0; i < 12; i++) {
            insertNumber(x, i);
        }
        CHECK.due("6: there already", insertNumber(x, 11), 0);
        CHECK.due("7: not there", removeNumber(x, 12), 0);
        CHECK.due("6: wrong", x.insert(0, 4, 0), SixfoldTriples.BAD);
        CHECK.due("7: wrong", x.remove(0, 4, 0), SixfoldTriples.BAD);
        x.where(32, 33, 34);
        CHECK.due("15: run", x.run(32, 33, 34), 12);
        state("no change", x, 12, 12, 0);
    }

    private static void mergeBeforeAChangeThatWouldUndo() {
        SixfoldTriples x = Check.withWords(4);
        for (int i = 0; i < 12; i++) {
            insertNumber(x, i);
        }
        CHECK.due("7: a pending one", removeNumber(x, 5), 1);
        state("merged, then taken", x, 11, 1, 1);
        CHECK.due("6: put back", insertNumber(x, 5), 1);
        state("put back", x, 12, 0, 1);
        for (int i = 0; i < 12; i++) {
            removeNumber(x, i);
        }
        state("12 taken", x, 0, 12, 1);
        CHECK.due("6: put one back", insertNumber(x, 5), 1);
        state("merged, then put", x, 1, 1, 2);
    }

    private static void pendingCountsTheDifference() {
        SixfoldTriples x = Check.withWords(4);
        insertNumber(x, 0);
        insertNumber(x, 1);
        x.merge();
        removeNumber(x, 0);
        insertNumber(x, 2);
        state("one taken, one put", x, 2, 2, 1);
        insertNumber(x, 0);
        state("back again", x, 3, 1, 1);
        removeNumber(x, 2);
        state("out again", x, 2, 0, 1);
        for (int i = 0; i < 20; i++) {
            removeNumber(x, 1);
            CHECK.due("10: one taken", x.pending(), 1);
            insertNumber(x, 1);
            CHECK.due("10: none", x.pending(), 0);
        }
        CHECK.due("11: merges()", x.merges(), 1);
    }

    private static void mergeByHand() {
        SixfoldTriples x = Check.withWords(4);
        CHECK.due("8: nothing pending", x.merge(), 0);
        state("8: an empty merge counts", x, 0, 0, 1);
        insertNumber(x, 7);
        insertNumber(x, 8);
        insertNumber(x, 9);
        removeNumber(x, 8);
        CHECK.due("8: two pending", x.merge(), 2);
        state("8", x, 2, 0, 2);
        CHECK.due("8: none pending", x.merge(), 0);
        state("8 again", x, 2, 0, 3);
        for (int i = 20; i < 32; i++) {
            insertNumber(x, i);
        }
        CHECK.due("8: twelve pending", x.merge(), 12);
        insertNumber(x, 33);
        state("8: only the merge by hand", x, 15, 1, 4);
    }

    private static void wrongTriples() {
        SixfoldTriples x = Check.withWords(4);
        x.insert(1, 2, 3);
        int[] wrongWays = {-1, 6, 7, Integer.MAX_VALUE, Integer.MIN_VALUE};
        for (int way : wrongWays) {
            CHECK.due("12: way " + way, x.triple(way, 0), -1);
        }
        int[] wrongRanks = {-1, 1, 59, 60, 61, Integer.MAX_VALUE, Integer.MIN_VALUE};
        for (int way = 0; way < 6; way++) {
            CHECK.due("12: way " + way, x.triple(way, 0), Check.code(1, 2, 3));
            for (int k : wrongRanks) {
                CHECK.due("12: way " + way + ", k " + k, x.triple(way, k), -1);
            }
        }
    }

    private static void sixOrders() {
        int[][] triples = new int[60][];
        for (int i = 0; i < 60; i++) {
            // Few different terms for each part, so that every way has to look at all three parts.
            int scattered = i * 57 % 125;
            triples[i] = new int[] {scattered / 25 * 5, 23 - scattered / 5 % 5, scattered % 5 * 3};
        }
        comparedInAllWays(withTriples(triples), triples);
        SixfoldTriples x = withTriples(triples);
        for (int i = 0; i < 25; i++) {
            CHECK.due("7: remove", x.remove(triples[i][0], triples[i][1], triples[i][2]), 1);
        }
        comparedInAllWays(x, Arrays.copyOfRange(triples, 25, 60));
    }

    private static SixfoldTriples withTriples(int[][] triples) {
        SixfoldTriples x = Check.withWords(24);
        for (int[] triple : triples) {
            CHECK.due("6: insert", x.insert(triple[0], triple[1], triple[2]), 1);
        }
        return x;
    }

    private static void comparedInAllWays(SixfoldTriples x, int[][] triples) {
        for (int way = 0; way < 6; way++) {
            int[][] sorted = triples.clone();
            int[] parts = PARTS_OF_WAYS[way];
            Arrays.sort(sorted, (a, b) -> {
                for (int part : parts) {
                    if (a[part] != b[part]) {
                        return Integer.compare(a[part], b[part]);
                    }
                }
                return 0;
            });
            for (int k = 0; k < sorted.length; k++) {
                int want = Check.code(sorted[k][0], sorted[k][1], sorted[k][2]);
                CHECK.due("12: triple(" + way + ", " + k + ")", x.triple(way, k), want);
            }
            CHECK.due("12: triple(" + way + ", " + sorted.length + ")", x.triple(way, sorted.length), -1);
        }
    }
}
