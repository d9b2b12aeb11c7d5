/** Promise 1: what a new object has, and that it is apart from every other object. */
public final class NewObjectTest {
    private static final int BAD = SixfoldTriples.BAD;
    private static final Check CHECK = new Check();

    public static void main(String[] args) {
        everythingIsEmpty();
        newObjectsAreApart();
        CHECK.end();
    }

    private static void everythingIsEmpty() {
        dictionaryIsEmpty();
        noWordIsBegun();
        noTriples();
        nothingSettled();
        noMerge();
        questionIsEmpty();
        noRun();
    }

    /** "An empty dictionary" */
    private static void dictionaryIsEmpty() {
        SixfoldTriples x = new SixfoldTriples();
        CHECK.due("1: words()", x.words(), 0);
        CHECK.due("1: spell(0, 0)", x.spell(0, 0), -1);
        CHECK.due("1: insert(0, 0, 0)", x.insert(0, 0, 0), BAD);
        CHECK.due("1: remove(0, 0, 0)", x.remove(0, 0, 0), BAD);
        CHECK.due("1: where(0, 32, 33)", x.where(0, 32, 33), BAD);
        CHECK.due("1: the first word", Check.take(x, "a"), 0);
    }

    /** "no word begun" */
    private static void noWordIsBegun() {
        SixfoldTriples x = new SixfoldTriples();
        CHECK.due("1: intern()", x.intern(), BAD);
        for (int i = 0; i < 6; i++) {
            CHECK.due("1: letter " + i, x.letter('a'), true);
        }
        CHECK.due("1: letter 6", x.letter('a'), false);
    }

    /** "no triples" */
    private static void noTriples() {
        SixfoldTriples x = new SixfoldTriples();
        CHECK.due("1: size()", x.size(), 0);
        for (int way = 0; way < 6; way++) {
            CHECK.due("1: triple(" + way + ", 0)", x.triple(way, 0), -1);
        }
        x.where(32, 33, 34);
        CHECK.due("1: run(32, 33, 34)", x.run(32, 33, 34), 0);
    }

    /** "(empty before the first one)" */
    private static void nothingSettled() {
        CHECK.due("1: pending()", new SixfoldTriples().pending(), 0);
        CHECK.due("1: merge()", new SixfoldTriples().merge(), 0);
        SixfoldTriples x = Check.withWords(1);
        x.insert(0, 0, 0);
        CHECK.due("1: the first triple is pending", x.pending(), 1);
        x.remove(0, 0, 0);
        CHECK.due("1: and when it is out again, it is not", x.pending(), 0);
    }

    /** "no merge" */
    private static void noMerge() {
        SixfoldTriples x = new SixfoldTriples();
        CHECK.due("1: merges()", x.merges(), 0);
        x.merge();
        CHECK.due("1: merges() after one", x.merges(), 1);
    }

    /** "an empty question" */
    private static void questionIsEmpty() {
        SixfoldTriples x = new SixfoldTriples();
        CHECK.due("1: run(-1, -1, -1)", x.run(-1, -1, -1), BAD);
        CHECK.due("1: where(32, 33, 34)", x.where(32, 33, 34), 1);
    }

    /** "no run" */
    private static void noRun() {
        SixfoldTriples x = new SixfoldTriples();
        CHECK.due("1: live()", x.live(), 0);
        for (int variable = 32; variable <= 34; variable++) {
            CHECK.due("1: answer(0, " + variable + ")", x.answer(0, variable), -1);
        }
    }

    private static void newObjectsAreApart() {
        SixfoldTriples x = Check.withWords(2);
        x.insert(0, 1, 0);
        x.merge();
        x.where(32, 1, 0);
        x.run(32, -1, -1);
        x.letter('z');
        everythingIsEmpty();
        CHECK.due("1: words() of the first", x.words(), 2);
        CHECK.due("1: size() of the first", x.size(), 1);
        CHECK.due("1: live() of the first", x.live(), 1);
        CHECK.due("1: answer(0, 32) of the first", x.answer(0, 32), 0);
        CHECK.due("1: intern() of the first", x.intern(), 2);
    }
}
