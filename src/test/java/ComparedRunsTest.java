import java.util.Random;

/** All promises: runs of 512 calls by a seeded source, each answer compared with PlainTriples. */
public final class ComparedRunsTest {
    private static final int RUNS = 240;
    private static final int CALLS = 512;
    private static final Check CHECK = new Check();

    private final Random source;
    private final int seed;
    private final int wordCount;
    private final SixfoldTriples x = new SixfoldTriples();
    private final PlainTriples plain = new PlainTriples();

    private ComparedRunsTest(int seed) {
        this.seed = seed;
        source = new Random(seed);
        // Few words make triples meet; many words reach the limits of the dictionary.
        wordCount = seed % 60 == 0 ? 26 : 1 + source.nextInt(7);
    }

    public static void main(String[] args) {
        for (int seed = 0; seed < RUNS && CHECK.isClean(); seed++) {
            new ComparedRunsTest(seed).calls();
        }
        CHECK.end();
    }

    private void calls() {
        int made = 0;
        for (int i = 0; i < wordCount; i++) {
            made += word(i);
        }
        while (made < CALLS && CHECK.isClean()) {
            made += oneCall();
        }
    }

    private void due(String call, long got, long want) {
        CHECK.due("seed " + seed + ": " + call, got, want);
    }

    private int letter(char c) {
        due("letter " + (int) c, x.letter(c) ? 1 : 0, plain.letter(c) ? 1 : 0);
        return 1;
    }

    private int word(int i) {
        letter((char) ('a' + i));
        int extra = source.nextInt(5) == 0 ? letter((char) (30 + source.nextInt(100))) : 0;
        due("intern()", x.intern(), plain.intern());
        return 2 + extra;
    }

    private int oneCall() {
        int kind = source.nextInt(100);
        if (kind < 3) {
            return word(source.nextInt(26));
        }
        if (kind < 40) {
            change();
        } else if (kind < 43) {
            due("merge()", x.merge(), plain.merge());
        } else if (kind < 58) {
            ask();
        } else if (kind < 70) {
            runQuestion();
        } else {
            look();
        }
        return 1;
    }

    private int term() {
        int words = plain.words();
        return source.nextInt(40) == 0 ? source.nextInt(70) - 4 : source.nextInt(words + 1) % words;
    }

    private int numberOfPattern() {
        return source.nextBoolean() ? 32 + source.nextInt(source.nextInt(30) == 0 ? 4 : 3) : term();
    }

    private void change() {
        int subject = term();
        int verb = source.nextBoolean() ? 0 : term();
        int object = term();
        String terms = "(" + subject + ", " + verb + ", " + object + ")";
        if (source.nextInt(4) == 0) {
            due("remove" + terms, x.remove(subject, verb, object), plain.remove(subject, verb, object));
        } else {
            due("insert" + terms, x.insert(subject, verb, object), plain.insert(subject, verb, object));
        }
        due("pending()", x.pending(), plain.pending());
        due("merges()", x.merges(), plain.merges());
    }

    private void ask() {
        if (source.nextInt(4) == 0) {
            x.clear();
            plain.clear();
            return;
        }
        int subject = numberOfPattern();
        int verb = source.nextInt(3) == 0 ? numberOfPattern() : 0;
        int object = numberOfPattern();
        due("where(" + subject + ", " + verb + ", " + object + ")",
                x.where(subject, verb, object), plain.where(subject, verb, object));
    }

    private void runQuestion() {
        int[] row = {32, 33, 34};
        for (int i = 2; i > 0; i--) {
            int j = source.nextInt(i + 1);
            int kept = row[i];
            row[i] = row[j];
            row[j] = kept;
        }
        tryRow(row[0], row[1], row[2]);
        tryRow(row[0], row[1], -1);
        tryRow(row[0], -1, -1);
        tryRow(row[1], -1, -1);
        tryRow(-1, -1, -1);
        tryRow(row[0], row[source.nextInt(3)], source.nextInt(5) + 31);
    }

    private void tryRow(int first, int second, int third) {
        due("run(" + first + ", " + second + ", " + third + ")",
                x.run(first, second, third), plain.run(first, second, third));
        due("live()", x.live(), plain.live());
        for (int variable = 31; variable <= 35; variable++) {
            for (int k = -1; k < 6; k++) {
                compareAnswer(k, variable);
            }
            compareAnswer(source.nextInt(205), variable);
        }
    }

    private void compareAnswer(int k, int variable) {
        due("answer(" + k + ", " + variable + ")", x.answer(k, variable), plain.answer(k, variable));
    }

    private void look() {
        int way = source.nextInt(8) - 1;
        int k = source.nextInt(plain.size() + 2) - 1;
        due("triple(" + way + ", " + k + ")", x.triple(way, k), plain.triple(way, k));
        int term = source.nextInt(plain.words() + 2) - 1;
        int i = source.nextInt(9) - 1;
        due("spell(" + term + ", " + i + ")", x.spell(term, i), plain.spell(term, i));
        due("words()", x.words(), plain.words());
        due("size()", x.size(), plain.size());
        due("pending()", x.pending(), plain.pending());
        due("merges()", x.merges(), plain.merges());
        due("live()", x.live(), plain.live());
        compareAnswer(source.nextInt(205) - 2, 31 + source.nextInt(5));
    }
}
