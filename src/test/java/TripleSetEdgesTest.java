import java.util.function.Consumer;
import java.util.function.ToIntFunction;

/** The edges of promises 6 to 12 and of the terms PRESENT, SETTLED and PENDING, sentence by sentence. */
public final class TripleSetEdgesTest {
    private static final int BAD = SixfoldTriples.BAD;
    private static final int FULL = SixfoldTriples.FULL;
    private static final Check CHECK = new Check();

    /** insert or remove of one object. */
    private interface Change {
        int call(int subject, int verb, int object);
    }

    public static void main(String[] args) {
        insertTakesTermsAlone();
        removeTakesTermsAlone();
        wrongTermsChangeNothing();
        insertOfWhatIsThere();
        atMostSixtyTriples();
        noRoomChangesNothing();
        badAndThereComeBeforeFull();
        removeOfWhatIsNotThere();
        removeMakesRoom();
        settledIsEmptyBeforeTheFirstMerge();
        settledIsThePresentSetAtTheLatestMerge();
        pendingIsInJustOneOfTheTwo();
        noMergeWithElevenPending();
        mergeComesFirstWithTwelvePending();
        mergeAnswersWhatWasPending();
        mergeOfTheEmptyAndOfTheFullSet();
        howManyTriples();
        neverMoreThanTwelvePending();
        everyMergeIsCounted();
        waysThatAreNot();
        triplesThatAreNot();
        smallestAndLargestTriple();
        CHECK.end();
    }

    private static void state(String what, SixfoldTriples x, int size, int pending, int merges) {
        CHECK.due("9: " + what + ": size()", x.size(), size);
        CHECK.due("10: " + what + ": pending()", x.pending(), pending);
        CHECK.due("11: " + what + ": merges()", x.merges(), merges);
    }

    /** Promise 6: "BAD when one of the terms is not in the dictionary" */
    private static void insertTakesTermsAlone() {
        for (int words : new int[] {0, 1, 2, 23, 24}) {
            SixfoldTriples x = Check.withWords(words);
            badForWrongTerms("6: insert", x::insert, words);
            state("wrong terms of " + words, x, 0, 0, 0);
            if (words > 0) {
                CHECK.due("6: the last term of " + words, x.insert(words - 1, words - 1, words - 1), 1);
            }
        }
        SixfoldTriples x = Check.withWords(23);
        CHECK.due("6: term 23 of 23", x.insert(23, 0, 0), BAD);
        Check.take(x, "new");
        CHECK.due("6: term 23 of 24", x.insert(23, 0, 0), 1);
    }

    /** Promise 7: "BAD when one of the terms is not in the dictionary" */
    private static void removeTakesTermsAlone() {
        for (int words : new int[] {0, 1, 2, 23, 24}) {
            SixfoldTriples x = Check.withWords(words);
            if (words > 0) {
                x.insert(0, 0, 0);
                x.insert(words - 1, words - 1, words - 1);
            }
            int size = x.size();
            badForWrongTerms("7: remove", x::remove, words);
            state("wrong terms of " + words, x, size, size, 0);
            if (words > 0) {
                CHECK.due("7: the last term of " + words, x.remove(words - 1, words - 1, words - 1), 1);
            }
        }
        SixfoldTriples x = Check.withWords(23);
        CHECK.due("7: term 23 of 23", x.remove(23, 0, 0), BAD);
        Check.take(x, "new");
        CHECK.due("7: term 23 of 24", x.remove(23, 0, 0), 0);
    }

    private static void badForWrongTerms(String name, Change change, int words) {
        for (int term : new int[] {-1, words, words + 1, 24, 31, 32, 33, 34, 35, 64}) {
            badInEveryPlace(name + " with " + words + " words", change, term);
        }
        for (int term : Check.FAR_NUMBERS) {
            badInEveryPlace(name + " with " + words + " words", change, term);
        }
    }

    private static void badInEveryPlace(String name, Change change, int term) {
        CHECK.due(name + ", subject " + term, change.call(term, 0, 0), BAD);
        CHECK.due(name + ", verb " + term, change.call(0, term, 0), BAD);
        CHECK.due(name + ", object " + term, change.call(0, 0, term), BAD);
    }

    /** Promises 6 and 7: "(Only with the answer 1 anything is changed, or merged.)", for BAD. */
    private static void wrongTermsChangeNothing() {
        int[] wrong = {-1, 4, 31, 32, Integer.MAX_VALUE, Integer.MIN_VALUE};
        int[] wrongWhenFull = {-1, 24, 32, Integer.MAX_VALUE, Integer.MIN_VALUE};
        changeNothing("nothing", Refusals::nothing, new int[] {0, -1, Integer.MAX_VALUE});
        changeNothing("some triples", Refusals::some, wrong);
        changeNothing("12 pending", Refusals::twelvePending, wrong);
        changeNothing("everything full", Refusals::full, wrongWhenFull);
    }

    private static void changeNothing(String name, Consumer<SixfoldTriples> before, int[] wrong) {
        Refusals refusals = new Refusals(CHECK, name, before);
        for (int term : wrong) {
            refusals.due("6: insert, subject " + term, x -> x.insert(term, 1, 1), BAD);
            refusals.due("6: insert, verb " + term, x -> x.insert(1, term, 1), BAD);
            refusals.due("6: insert, object " + term, x -> x.insert(1, 1, term), BAD);
            refusals.due("7: remove, subject " + term, x -> x.remove(term, 1, 1), BAD);
            refusals.due("7: remove, verb " + term, x -> x.remove(1, term, 1), BAD);
            refusals.due("7: remove, object " + term, x -> x.remove(1, 1, term), BAD);
        }
    }

    /** Promise 6: "0 when it is there already", and then nothing is changed, or merged. */
    private static void insertOfWhatIsThere() {
        Refusals some = new Refusals(CHECK, "some triples", Refusals::some);
        some.due("6: insert of a settled one", x -> Check.insertNumber(x, 3), 0);
        some.due("6: insert of a pending one", x -> Check.insertNumber(x, 21), 0);
        Refusals twelve = new Refusals(CHECK, "12 pending", Refusals::twelvePending);
        twelve.due("6: insert of a settled one", x -> Check.insertNumber(x, 3), 0);
        twelve.due("6: insert of a pending one", x -> Check.insertNumber(x, 28), 0);
        Refusals full = new Refusals(CHECK, "everything full", Refusals::full);
        full.due("6: insert of a settled one", x -> Check.insertNumber(x, 0), 0);
        full.due("6: insert of a pending one", x -> Check.insertNumber(x, 59), 0);
    }

    /** Terms: "The PRESENT set has at most 60 triples." */
    private static void atMostSixtyTriples() {
        SixfoldTriples x = Check.withWords(4);
        for (int i = 0; i < 60; i++) {
            CHECK.due("6: insert number " + i, Check.insertNumber(x, i), 1);
        }
        for (int i = 60; i < 64; i++) {
            CHECK.due("6: insert number " + i, Check.insertNumber(x, i), FULL);
        }
        CHECK.due("9: size()", x.size(), 60);
        for (int i = 0; i < 60; i++) {
            CHECK.due("12: triple(0, " + i + ")", x.triple(0, i), Check.code(i / 16, i / 4 % 4, i % 4));
        }
    }

    /** Promise 6: "FULL when it is not there and 60 triples are", and then nothing is changed, or merged. */
    private static void noRoomChangesNothing() {
        Refusals twelve = new Refusals(CHECK, "60 triples, 12 pending", Refusals::full);
        Refusals none = new Refusals(CHECK, "60 triples, none pending", x -> {
            Check.takeWords(x, 4);
            Check.insertNumbers(x, 0, 60);
            x.merge();
        });
        for (int i = 60; i < 64; i++) {
            int number = i;
            twelve.due("6: insert number " + i, x -> Check.insertNumber(x, number), FULL);
            none.due("6: insert number " + i, x -> Check.insertNumber(x, number), FULL);
        }
        twelve.due("6: insert(23, 23, 23)", x -> x.insert(23, 23, 23), FULL);
        // One that is settled but taken out has no right to its old room.
        Refusals taken = new Refusals(CHECK, "60 triples, one of the settled ones taken out", x -> {
            Check.takeWords(x, 4);
            Check.insertNumbers(x, 0, 60);
            x.merge();
            Check.removeNumbers(x, 7, 8);
            Check.insertNumbers(x, 60, 61);
        });
        taken.due("6: insert number 7", x -> Check.insertNumber(x, 7), FULL);
    }

    /** Promise 6: FULL is for a triple of terms, and for one that is not there. */
    private static void badAndThereComeBeforeFull() {
        SixfoldTriples x = Check.withWords(4);
        Check.insertNumbers(x, 0, 60);
        CHECK.due("6: a wrong term with 60", x.insert(3, 3, 4), BAD);
        CHECK.due("6: one that is there with 60", Check.insertNumber(x, 59), 0);
        CHECK.due("6: one that is not there with 60", Check.insertNumber(x, 60), FULL);
        Check.removeNumbers(x, 59, 60);
        CHECK.due("6: one that is not there with 59", Check.insertNumber(x, 60), 1);
    }

    /** Promise 7: "0 when it is not there", and then nothing is changed, or merged. */
    private static void removeOfWhatIsNotThere() {
        Refusals none = new Refusals(CHECK, "no triples", x -> Check.takeWords(x, 4));
        none.due("7: remove from none", x -> Check.removeNumber(x, 0), 0);
        Refusals some = new Refusals(CHECK, "some triples", Refusals::some);
        some.due("7: remove of one taken out", x -> Check.removeNumber(x, 0), 0);
        some.due("7: remove of one that never was", x -> Check.removeNumber(x, 63), 0);
        Refusals twelve = new Refusals(CHECK, "12 pending", Refusals::twelvePending);
        twelve.due("7: remove of one taken out", x -> Check.removeNumber(x, 0), 0);
        twelve.due("7: remove of one that never was", x -> Check.removeNumber(x, 29), 0);
        Refusals full = new Refusals(CHECK, "everything full", Refusals::full);
        full.due("7: remove of one that has no room", x -> Check.removeNumber(x, 60), 0);
    }

    /** Promise 7: "Takes a triple out of the present set: 1", also out of a full one. */
    private static void removeMakesRoom() {
        for (int i : new int[] {0, 30, 59}) {
            SixfoldTriples x = Check.withWords(4);
            Check.insertNumbers(x, 0, 60);
            CHECK.due("7: remove number " + i + " of 60", Check.removeNumber(x, i), 1);
            state("59 after number " + i, x, 59, 1, 5);
            CHECK.due("7: remove number " + i + " again", Check.removeNumber(x, i), 0);
            CHECK.due("6: room for number 63", Check.insertNumber(x, 63), 1);
            CHECK.due("6: no room for number " + i, Check.insertNumber(x, i), FULL);
            state("60 again", x, 60, 2, 5);
        }
    }

    /** Terms: "(empty before the first one)" */
    private static void settledIsEmptyBeforeTheFirstMerge() {
        SixfoldTriples x = Check.withWords(4);
        for (int i = 0; i < 12; i++) {
            Check.insertNumbers(x, i, i + 1);
            state("put before a merge", x, i + 1, i + 1, 0);
        }
        SixfoldTriples y = Check.withWords(4);
        Check.insertNumbers(y, 0, 11);
        for (int i = 10; i >= 0; i--) {
            Check.removeNumbers(y, i, i + 1);
            state("taken before a merge", y, i, i, 0);
        }
    }

    /** Terms: "The SETTLED set is what the present set was at the latest MERGE" */
    private static void settledIsThePresentSetAtTheLatestMerge() {
        SixfoldTriples x = Check.withWords(4);
        Check.insertNumbers(x, 0, 5);
        x.merge();
        Check.removeNumbers(x, 0, 2);
        Check.insertNumbers(x, 5, 7);
        x.merge();
        state("after the second merge", x, 5, 0, 2);
        Check.insertNumbers(x, 0, 1);
        state("put, in the first merge alone", x, 6, 1, 2);
        Check.removeNumbers(x, 2, 3);
        state("taken, in both merges", x, 5, 2, 2);
        Check.removeNumbers(x, 5, 6);
        state("taken, in the second merge alone", x, 4, 3, 2);
        Check.removeNumbers(x, 0, 1);
        Check.insertNumbers(x, 2, 3);
        Check.insertNumbers(x, 5, 6);
        state("as it was", x, 5, 0, 2);
    }

    /** Terms: "PENDING triples are those that are in just one of the two." */
    private static void pendingIsInJustOneOfTheTwo() {
        SixfoldTriples x = Check.withWords(4);
        Check.insertNumbers(x, 0, 10);
        x.merge();
        for (int i = 0; i < 6; i++) {
            Check.removeNumbers(x, i, i + 1);
            state("in the settled set alone", x, 9, 2 * i + 1, 1);
            Check.insertNumbers(x, 20 + i, 21 + i);
            state("in the present set alone", x, 10, 2 * i + 2, 1);
        }
        SixfoldTriples y = Check.withWords(4);
        Check.insertNumbers(y, 0, 10);
        y.merge();
        for (int i = 0; i < 20; i++) {
            Check.removeNumbers(y, 4, 5);
            state("taken out", y, 9, 1, 1);
            Check.insertNumbers(y, 4, 5);
            state("in both again", y, 10, 0, 1);
            Check.insertNumbers(y, 40, 41);
            state("put in", y, 11, 1, 1);
            Check.removeNumbers(y, 40, 41);
            state("in none again", y, 10, 0, 1);
        }
    }

    /** Numbers 0 .. 19 are settled, of which the first ones are taken out; numbers from 40 are put in. */
    private static SixfoldTriples withPending(int put, int taken) {
        SixfoldTriples x = Check.withWords(4);
        Check.insertNumbers(x, 0, 12);
        x.merge();
        Check.insertNumbers(x, 12, 20);
        x.merge();
        Check.removeNumbers(x, 0, taken);
        Check.insertNumbers(x, 40, 40 + put);
        state(put + " put in, " + taken + " taken out", x, 20 - taken + put, put + taken, 2);
        return x;
    }

    private static void change(String name, int put, int taken, ToIntFunction<SixfoldTriples> call, int pending) {
        SixfoldTriples x = withPending(put, taken);
        int size = x.size();
        CHECK.due(name, call.applyAsInt(x), 1);
        CHECK.due(name + ": size()", Math.abs(x.size() - size), 1);
        CHECK.due(name + ": pending()", x.pending(), pending);
        CHECK.due(name + ": merges()", x.merges(), put + taken < 12 ? 2 : 3);
    }

    /** Terms: "When 12 triples are pending": with 11 no merge comes, whichever change is made. */
    private static void noMergeWithElevenPending() {
        for (int put = 1; put <= 10; put++) {
            String name = "10: 11 pending, " + put + " of them put in";
            change(name + ", put a new one", put, 11 - put, x -> Check.insertNumber(x, 63), 12);
            change(name + ", take a settled one", put, 11 - put, x -> Check.removeNumber(x, 11), 12);
            change(name + ", take a pending one", put, 11 - put, x -> Check.removeNumber(x, 40), 10);
            change(name + ", put back a pending one", put, 11 - put, x -> Check.insertNumber(x, 0), 10);
        }
    }

    /**
     * Terms: "When 12 triples are pending and the present set is to be changed by insert or remove,
     * a merge comes first."
     */
    private static void mergeComesFirstWithTwelvePending() {
        for (int put = 1; put <= 11; put++) {
            String name = "10: 12 pending, " + put + " of them put in";
            change(name + ", put a new one", put, 12 - put, x -> Check.insertNumber(x, 63), 1);
            change(name + ", take a settled one", put, 12 - put, x -> Check.removeNumber(x, 12), 1);
            change(name + ", take a pending one", put, 12 - put, x -> Check.removeNumber(x, 40), 1);
            change(name + ", put back a pending one", put, 12 - put, x -> Check.insertNumber(x, 0), 1);
        }
        change("10: 12 pending, all put in", 12, 0, x -> Check.insertNumber(x, 63), 1);
        change("10: 12 pending, all put in, one taken", 12, 0, x -> Check.removeNumber(x, 51), 1);
        change("10: 12 pending, all taken out", 0, 12, x -> Check.removeNumber(x, 12), 1);
        change("10: 12 pending, all taken out, one put back", 0, 12, x -> Check.insertNumber(x, 11), 1);
    }

    /** Promise 8: "how many triples were pending; none is then" */
    private static void mergeAnswersWhatWasPending() {
        for (int pending = 0; pending <= 12; pending++) {
            SixfoldTriples x = Check.withWords(4);
            Check.insertNumbers(x, 0, pending);
            CHECK.due("8: merge() with " + pending + " put in", x.merge(), pending);
            state("merged with " + pending, x, pending, 0, 1);
            CHECK.due("8: merge() again", x.merge(), 0);
            Check.removeNumbers(x, 0, pending);
            CHECK.due("8: merge() with " + pending + " taken out", x.merge(), pending);
            state("merged without " + pending, x, 0, 0, 3);
        }
    }

    /** Promise 8: "none is then", also when there are no triples, or sixty. */
    private static void mergeOfTheEmptyAndOfTheFullSet() {
        SixfoldTriples x = Check.withWords(4);
        CHECK.due("8: merge() of none", x.merge(), 0);
        state("merge of none", x, 0, 0, 1);
        Check.insertNumbers(x, 0, 60);
        state("sixty", x, 60, 12, 5);
        CHECK.due("8: merge() of sixty", x.merge(), 12);
        state("merge of sixty", x, 60, 0, 6);
        Check.removeNumbers(x, 59, 60);
        state("the last of sixty was settled", x, 59, 1, 6);
        Check.insertNumbers(x, 59, 60);
        state("sixty as settled", x, 60, 0, 6);
        CHECK.due("8: merge() of sixty as settled", x.merge(), 0);
    }

    /** Promise 9: "How many triples the present set has.", from none to sixty and back. */
    private static void howManyTriples() {
        SixfoldTriples x = Check.withWords(4);
        for (int i = 0; i < 60; i++) {
            CHECK.due("9: size() with " + i, x.size(), i);
            Check.insertNumbers(x, i, i + 1);
        }
        CHECK.due("9: size() with 60", x.size(), 60);
        Check.insertNumber(x, 60);
        CHECK.due("9: size() after one without room", x.size(), 60);
        for (int i = 59; i >= 0; i--) {
            Check.removeNumbers(x, i, i + 1);
            CHECK.due("9: size() down to " + i, x.size(), i);
        }
        Check.removeNumber(x, 0);
        CHECK.due("9: size() after one that is not there", x.size(), 0);
    }

    /** Promise 10: "How many triples are pending.", from 0 to 12 and anew from 1. */
    private static void neverMoreThanTwelvePending() {
        SixfoldTriples x = Check.withWords(4);
        for (int i = 0; i < 60; i++) {
            Check.insertNumbers(x, i, i + 1);
            state("put in " + i, x, i + 1, i % 12 + 1, i / 12);
        }
        SixfoldTriples y = Check.withWords(4);
        Check.insertNumbers(y, 0, 60);
        y.merge();
        for (int i = 0; i < 60; i++) {
            Check.removeNumbers(y, i, i + 1);
            state("taken out " + i, y, 59 - i, i % 12 + 1, 5 + i / 12);
        }
    }

    /** Promise 11: "those by merge() (also with nothing pending) and those that came before a change" */
    private static void everyMergeIsCounted() {
        SixfoldTriples x = Check.withWords(4);
        for (int i = 1; i <= 20; i++) {
            x.merge();
            CHECK.due("11: merges() with nothing pending", x.merges(), i);
        }
        Check.insertNumbers(x, 0, 12);
        CHECK.due("11: merges() with 12 pending", x.merges(), 20);
        Check.insertNumbers(x, 12, 13);
        CHECK.due("11: merges() with one before a change", x.merges(), 21);
        x.merge();
        CHECK.due("11: merges() with one pending", x.merges(), 22);
        Check.removeNumbers(x, 0, 12);
        CHECK.due("11: merges() with 12 taken out", x.merges(), 22);
        Check.removeNumbers(x, 12, 13);
        CHECK.due("11: merges() with one before a remove", x.merges(), 23);
    }

    /** Promise 12: "-1 when way is not 0 .. 5" */
    private static void waysThatAreNot() {
        SixfoldTriples x = Check.withWords(4);
        Check.insertNumbers(x, 0, 60);
        for (int way = -40; way <= 40; way++) {
            int first = way >= 0 && way <= 5 ? 0 : -1;
            CHECK.due("12: triple(" + way + ", 0)", x.triple(way, 0), first);
            CHECK.due("12: triple(" + way + ", 59) is there", x.triple(way, 59) >= 0, first == 0);
        }
        for (int way : Check.FAR_NUMBERS) {
            CHECK.due("12: triple(" + way + ", 0)", x.triple(way, 0), -1);
            CHECK.due("12: triple(" + way + ", " + way + ")", x.triple(way, way), -1);
        }
    }

    /** Promise 12: "counted from 0; .. -1 when .. there is no such triple" */
    private static void triplesThatAreNot() {
        for (int size : new int[] {0, 1, 12, 59, 60}) {
            for (int way = 0; way < 6; way++) {
                SixfoldTriples x = Check.withWords(4);
                Check.insertNumbers(x, 0, size);
                for (int k = -70; k <= 130; k++) {
                    CHECK.due("12: triple(" + way + ", " + k + ") of " + size + " is there",
                            x.triple(way, k) >= 0, k >= 0 && k < size);
                }
                for (int k : Check.FAR_NUMBERS) {
                    CHECK.due("12: triple(" + way + ", " + k + ") of " + size, x.triple(way, k), -1);
                }
            }
        }
        SixfoldTriples x = Check.withWords(4);
        Check.insertNumbers(x, 0, 60);
        Check.removeNumbers(x, 0, 60);
        for (int way = 0; way < 6; way++) {
            CHECK.due("12: triple(" + way + ", 0) when all are out", x.triple(way, 0), -1);
        }
    }

    /** Promise 12: "Answers (subject * 32 + verb) * 32 + object" */
    private static void smallestAndLargestTriple() {
        int[][] triples = {{0, 0, 0}, {0, 0, 23}, {0, 23, 0}, {0, 23, 23}, {23, 0, 0}, {23, 0, 23}, {23, 23, 0},
            {23, 23, 23}};
        for (int[] triple : triples) {
            SixfoldTriples x = Check.withWords(24);
            CHECK.due("6: insert", x.insert(triple[0], triple[1], triple[2]), 1);
            for (int way = 0; way < 6; way++) {
                int want = Check.code(triple[0], triple[1], triple[2]);
                CHECK.due("12: triple(" + way + ", 0)", x.triple(way, 0), want);
            }
        }
        SixfoldTriples x = Check.withWords(24);
        for (int i = triples.length - 1; i >= 0; i--) {
            x.insert(triples[i][0], triples[i][1], triples[i][2]);
        }
        for (int way = 0; way < 6; way++) {
            CHECK.due("12: the smallest of way " + way, x.triple(way, 0), 0);
            CHECK.due("12: the largest of way " + way, x.triple(way, 7), Check.code(23, 23, 23));
        }
    }
}
