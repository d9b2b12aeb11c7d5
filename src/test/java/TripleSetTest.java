import java.util.Arrays;

/** Promises 6 to 12, with ordinary triples; their edges are in TripleSetEdgesTest. */
public final class TripleSetTest {
    private static final int[][] PARTS_OF_WAYS =
            {{0, 1, 2}, {0, 2, 1}, {1, 0, 2}, {1, 2, 0}, {2, 0, 1}, {2, 1, 0}};
    private static final Check CHECK = new Check();

    public static void main(String[] args) {
        insertAndRemove();
        partsAreNotMixedUp();
        mergeByHand();
        sixOrders();
        CHECK.end();
    }

    private static void state(String what, SixfoldTriples x, int size, int pending, int merges) {
        CHECK.due(what + ": size()", x.size(), size);
        CHECK.due(what + ": pending()", x.pending(), pending);
        CHECK.due(what + ": merges()", x.merges(), merges);
    }

    private static void insertAndRemove() {
        SixfoldTriples x = Check.withWords(4);
        CHECK.due("7: remove from none", x.remove(1, 2, 3), 0);
        CHECK.due("6: insert", x.insert(1, 2, 3), 1);
        state("6", x, 1, 1, 0);
        CHECK.due("6: insert again", x.insert(1, 2, 3), 0);
        state("6 again", x, 1, 1, 0);
        CHECK.due("7: remove", x.remove(1, 2, 3), 1);
        state("7", x, 0, 0, 0);
        CHECK.due("7: remove again", x.remove(1, 2, 3), 0);
        state("7 again", x, 0, 0, 0);
        CHECK.due("6: insert after remove", x.insert(1, 2, 3), 1);
        state("6 after 7", x, 1, 1, 0);
    }

    private static void partsAreNotMixedUp() {
        SixfoldTriples x = Check.withWords(4);
        x.insert(1, 2, 3);
        CHECK.due("7: remove(3, 2, 1)", x.remove(3, 2, 1), 0);
        CHECK.due("7: remove(2, 1, 3)", x.remove(2, 1, 3), 0);
        CHECK.due("6: insert(1, 3, 2)", x.insert(1, 3, 2), 1);
        CHECK.due("6: insert(3, 1, 2)", x.insert(3, 1, 2), 1);
        CHECK.due("9: size()", x.size(), 3);
    }

    private static void mergeByHand() {
        SixfoldTriples x = Check.withWords(4);
        CHECK.due("8: nothing pending", x.merge(), 0);
        state("8: an empty merge counts", x, 0, 0, 1);
        Check.insertNumber(x, 7);
        Check.insertNumber(x, 8);
        Check.insertNumber(x, 9);
        Check.removeNumber(x, 8);
        CHECK.due("8: two pending", x.merge(), 2);
        state("8", x, 2, 0, 2);
        CHECK.due("8: none pending", x.merge(), 0);
        state("8 again", x, 2, 0, 3);
        for (int i = 20; i < 32; i++) {
            Check.insertNumber(x, i);
        }
        CHECK.due("8: twelve pending", x.merge(), 12);
        Check.insertNumber(x, 33);
        state("8: only the merge by hand", x, 15, 1, 4);
    }

    private static void sixOrders() {
        int[][] triples = new int[60][];
        for (int i = 0; i < 60; i++) {
            // Few different terms for each part, so that every way has to look at all three parts.
            int scattered = i * 57 % 125;
            triples[i] = new int[] {scattered / 25 * 5, 23 - scattered / 5 % 5, scattered % 5 * 3};
        }
        comparedInAllWays(withTriples(triples), triples);
        SixfoldTriples x = withTriples(triples);
        for (int i = 0; i < 25; i++) {
            CHECK.due("7: remove", x.remove(triples[i][0], triples[i][1], triples[i][2]), 1);
        }
        comparedInAllWays(x, Arrays.copyOfRange(triples, 25, 60));
    }

    private static SixfoldTriples withTriples(int[][] triples) {
        SixfoldTriples x = Check.withWords(24);
        for (int[] triple : triples) {
            CHECK.due("6: insert", x.insert(triple[0], triple[1], triple[2]), 1);
        }
        return x;
    }

    private static void comparedInAllWays(SixfoldTriples x, int[][] triples) {
        for (int way = 0; way < 6; way++) {
            int[][] sorted = triples.clone();
            int[] parts = PARTS_OF_WAYS[way];
            Arrays.sort(sorted, (a, b) -> {
                for (int part : parts) {
                    if (a[part] != b[part]) {
                        return Integer.compare(a[part], b[part]);
                    }
                }
                return 0;
            });
            for (int k = 0; k < sorted.length; k++) {
                int want = Check.code(sorted[k][0], sorted[k][1], sorted[k][2]);
                CHECK.due("12: triple(" + way + ", " + k + ")", x.triple(way, k), want);
            }
            CHECK.due("12: triple(" + way + ", " + sorted.length + ")", x.triple(way, sorted.length), -1);
        }
    }
}
