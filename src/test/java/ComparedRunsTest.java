import java.util.ArrayList;
import java.util.Collections;
import java.util.List;
import java.util.Random;

/** All promises: runs of calls by a seeded source, each answer compared with PlainTriples. */
public final class ComparedRunsTest {
    private static final int RUNS = 1500;
    /** The document promises nothing about later calls on one object. */
    private static final int MOST_CALLS = 512;
    private static final int MOST_CALLS_OF_A_STEP = 8;
    private static final Check CHECK = new Check();

    private final Random source;
    private final int seed;
    private final SixfoldTriples x = new SixfoldTriples();
    private final PlainTriples plain = new PlainTriples();
    private int calls = 0;

    private ComparedRunsTest(int seed) {
        this.seed = seed;
        source = new Random(seed);
    }

    public static void main(String[] args) {
        for (int seed = 0; seed < RUNS && CHECK.isClean(); seed++) {
            new ComparedRunsTest(seed).go();
        }
        CHECK.end();
    }

    private void go() {
        // Few words make triples meet; many words reach the limits of the dictionary.
        int wordCount = seed % 60 == 0 ? 26 : 1 + source.nextInt(7);
        for (int i = 0; i < wordCount; i++) {
            word(i);
        }
        // Some runs begin with so many triples that there is soon no room for more.
        int early = seed % 4 == 0 ? 100 : source.nextInt(20);
        for (int i = 0; i < early; i++) {
            insert();
        }
        while (calls <= MOST_CALLS - MOST_CALLS_OF_A_STEP && CHECK.isClean()) {
            step();
        }
    }

    /** Tells of one call, which both objects have answered. */
    private void due(String call, long got, long want) {
        calls++;
        CHECK.due("seed " + seed + ", call " + calls + ": " + call, got, want);
    }

    private void step() {
        int kind = source.nextInt(100);
        if (kind < 4) {
            word(source.nextInt(26));
        } else if (kind < 25) {
            insert();
        } else if (kind < 37) {
            remove();
        } else if (kind < 39) {
            due("merge()", x.merge(), plain.merge());
        } else if (kind < 64) {
            ask();
        } else if (kind < 86) {
            runQuestion();
        } else {
            look();
        }
    }

    private void letter(char c) {
        due("letter " + (int) c, x.letter(c) ? 1 : 0, plain.letter(c) ? 1 : 0);
    }

    private void word(int i) {
        letter((char) ('a' + i));
        if (source.nextInt(5) == 0) {
            letter((char) (30 + source.nextInt(100)));
        }
        due("intern()", x.intern(), plain.intern());
    }

    private int term() {
        int words = plain.words();
        return source.nextInt(60) == 0 ? oddNumber() : source.nextInt(words + 1) % words;
    }

    private int oddNumber() {
        int far = Check.FAR_NUMBERS[source.nextInt(Check.FAR_NUMBERS.length)];
        return source.nextInt(3) == 0 ? far : source.nextInt(70) - 4;
    }

    private void insert() {
        int subject = term();
        int verb = source.nextInt(3) > 0 ? 0 : term();
        int object = term();
        due("insert(" + subject + ", " + verb + ", " + object + ")",
                x.insert(subject, verb, object), plain.insert(subject, verb, object));
        lookAtPending();
    }

    private void remove() {
        int code = plain.triple(0, source.nextInt(plain.size() + 1));
        boolean isThere = code >= 0 && source.nextInt(4) > 0;
        int subject = isThere ? code / 1024 : term();
        int verb = isThere ? code / 32 % 32 : term();
        int object = isThere ? code % 32 : term();
        due("remove(" + subject + ", " + verb + ", " + object + ")",
                x.remove(subject, verb, object), plain.remove(subject, verb, object));
        lookAtPending();
    }

    private void lookAtPending() {
        if (source.nextInt(3) == 0) {
            due("pending()", x.pending(), plain.pending());
            due("merges()", x.merges(), plain.merges());
        }
    }

    private int numberOfPattern() {
        return source.nextInt(5) < 3 ? 32 + source.nextInt(source.nextInt(30) == 0 ? 4 : 3) : term();
    }

    private void ask() {
        if (source.nextInt(5) == 0) {
            calls++;
            x.clear();
            plain.clear();
            return;
        }
        int subject = numberOfPattern();
        int verb = source.nextInt(3) == 0 ? numberOfPattern() : 0;
        int object = numberOfPattern();
        due("where(" + subject + ", " + verb + ", " + object + ")",
                x.where(subject, verb, object), plain.where(subject, verb, object));
    }

    private void runQuestion() {
        List<Integer> row = new ArrayList<>(plain.variables());
        Collections.shuffle(row, source);
        while (row.size() < 3) {
            row.add(-1);
        }
        if (source.nextInt(8) == 0) {
            row.set(source.nextInt(3), source.nextInt(3) == 0 ? -1 : 31 + source.nextInt(5));
        }
        due("run(" + row + ")", x.run(row.get(0), row.get(1), row.get(2)),
                plain.run(row.get(0), row.get(1), row.get(2)));
        due("live()", x.live(), plain.live());
        for (int i = 0; i < 6; i++) {
            compareAnswer();
        }
    }

    private void compareAnswer() {
        int past = source.nextInt(4) == 0 ? 205 : plain.answerCount() + 1;
        int k = source.nextInt(past + 1) - (source.nextInt(10) == 0 ? 1 : 0);
        int variable = source.nextInt(10) == 0 ? 31 + source.nextInt(5) : 32 + source.nextInt(3);
        due("answer(" + k + ", " + variable + ")", x.answer(k, variable), plain.answer(k, variable));
    }

    private void look() {
        int way = source.nextInt(20) == 0 ? source.nextInt(10) - 2 : source.nextInt(6);
        int k = source.nextInt(plain.size() + 2) - source.nextInt(2);
        due("triple(" + way + ", " + k + ")", x.triple(way, k), plain.triple(way, k));
        int term = source.nextInt(plain.words() + 2) - 1;
        int i = source.nextInt(5) - 1;
        due("spell(" + term + ", " + i + ")", x.spell(term, i), plain.spell(term, i));
        due("words()", x.words(), plain.words());
        due("size()", x.size(), plain.size());
        due("live()", x.live(), plain.live());
        compareAnswer();
    }
}
