import java.util.List;
import java.util.function.Consumer;
import java.util.function.ToIntFunction;

/** Calls that are refused: each must answer what is due and leave the object as it was. */
final class Refusals {
    private final Check check;
    private final String name;
    private final Consumer<SixfoldTriples> callsBefore;
    private final List<String> stateBefore;

    /** The calls before make, out of a new object, the one that refuses. */
    Refusals(Check check, String name, Consumer<SixfoldTriples> callsBefore) {
        this.check = check;
        this.name = name;
        this.callsBefore = callsBefore;
        stateBefore = State.after(callsBefore);
    }

    void due(String call, ToIntFunction<SixfoldTriples> refused, int want) {
        String label = call + " with " + name;
        SixfoldTriples x = new SixfoldTriples();
        callsBefore.accept(x);
        check.due(label, refused.applyAsInt(x), want);
        List<String> stateAfter = State.after(callsBefore.andThen(refused::applyAsInt));
        for (int i = 0; i < stateBefore.size(); i++) {
            check.due("after " + label, stateAfter.get(i), stateBefore.get(i));
        }
    }

    /** A new object. */
    static void nothing(SixfoldTriples x) {
    }

    /** Four words and one begun, five triples of which three are pending, two patterns, a run. */
    static void some(SixfoldTriples x) {
        Check.takeWords(x, 4);
        Check.insertNumbers(x, 0, 4);
        x.merge();
        Check.removeNumbers(x, 0, 1);
        Check.insertNumbers(x, 20, 22);
        ask(x);
        Check.begin(x, "D3");
    }

    /** As some, but with twelve pending triples: nine that were put in and three taken out. */
    static void twelvePending(SixfoldTriples x) {
        some(x);
        Check.removeNumbers(x, 1, 3);
        Check.insertNumbers(x, 22, 29);
    }

    private static void ask(SixfoldTriples x) {
        x.where(32, 1, 33);
        x.where(33, 0, 34);
        x.run(33, 32, 34);
    }

    /** No room for a word, a letter, a triple or a pattern; twelve triples are pending. */
    static void full(SixfoldTriples x) {
        Check.takeWords(x, 24);
        Check.insertNumbers(x, 0, 60);
        ask(x);
        x.where(33, 1, 32);
        x.where(34, 34, 3);
        x.run(34, 32, 33);
        Check.begin(x, "666666");
    }
}
