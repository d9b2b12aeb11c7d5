/** Promises 1 to 5: a new object, letter, intern, words, spell. */
public final class DictionaryTest {
    private static final Check CHECK = new Check();

    public static void main(String[] args) {
        newObject();
        newObjectsAreApart();
        letterCodes();
        letterLimit();
        internNumbers();
        internTellsWordsApart();
        internWithoutCharacters();
        internWhenFull();
        words();
        spell();
        spellWrong();
        CHECK.end();
    }

    private static void newObject() {
        SixfoldTriples x = new SixfoldTriples();
        CHECK.due("1: words()", x.words(), 0);
        CHECK.due("1: intern()", x.intern(), SixfoldTriples.BAD);
        CHECK.due("1: spell(0, 0)", x.spell(0, 0), -1);
        CHECK.due("1: size()", x.size(), 0);
        CHECK.due("1: pending()", x.pending(), 0);
        CHECK.due("1: merges()", x.merges(), 0);
        CHECK.due("1: triple(0, 0)", x.triple(0, 0), -1);
        CHECK.due("1: insert(0, 0, 0)", x.insert(0, 0, 0), SixfoldTriples.BAD);
        CHECK.due("1: run(-1, -1, -1)", x.run(-1, -1, -1), SixfoldTriples.BAD);
        CHECK.due("1: answer(0, 32)", x.answer(0, 32), -1);
        CHECK.due("1: live()", x.live(), 0);
        CHECK.due("1: merge()", x.merge(), 0);
        CHECK.due("1: where(32, 33, 34)", x.where(32, 33, 34), 1);
        CHECK.due("1: run(32, 33, 34)", x.run(32, 33, 34), 0);
    }

    private static void newObjectsAreApart() {
        SixfoldTriples x = Check.withWords(2);
        x.insert(0, 1, 0);
        x.where(32, 1, 0);
        x.run(32, -1, -1);
        x.letter('z');
        newObject();
        CHECK.due("1: words() of the first", x.words(), 2);
        CHECK.due("1: live() of the first", x.live(), 1);
    }

    private static void letterCodes() {
        for (int code = 0; code <= 0xFFFF; code++) {
            SixfoldTriples x = new SixfoldTriples();
            boolean right = code >= 33 && code <= 126;
            CHECK.due("2: letter " + code, x.letter((char) code), right);
            CHECK.due("2: intern() after letter " + code, x.intern(), right ? 0 : SixfoldTriples.BAD);
            CHECK.due("2: spell(0, 0) after letter " + code, x.spell(0, 0), right ? code : -1);
        }
    }

    private static void letterLimit() {
        SixfoldTriples x = new SixfoldTriples();
        for (int i = 0; i < 6; i++) {
            CHECK.due("2: letter " + i, x.letter((char) (126 - i)), true);
            CHECK.due("2: letter 32 after " + i, x.letter(' '), false);
        }
        CHECK.due("2: a seventh letter", x.letter('a'), false);
        CHECK.due("2: a seventh letter again", x.letter('!'), false);
        CHECK.due("2: intern()", x.intern(), 0);
        for (int i = 0; i < 6; i++) {
            CHECK.due("2: spell(0, " + i + ")", x.spell(0, i), 126 - i);
        }
        CHECK.due("2: letter of the next word", x.letter('a'), true);
        CHECK.due("2: intern() of the next word", x.intern(), 1);
    }

    private static void internNumbers() {
        SixfoldTriples x = new SixfoldTriples();
        CHECK.due("3: first", Check.take(x, "one"), 0);
        CHECK.due("3: second", Check.take(x, "two"), 1);
        CHECK.due("3: first again", Check.take(x, "one"), 0);
        CHECK.due("3: third", Check.take(x, "three"), 2);
        CHECK.due("3: second again", Check.take(x, "two"), 1);
        CHECK.due("3: no word is begun", x.intern(), SixfoldTriples.BAD);
        CHECK.due("4: words()", x.words(), 3);
    }

    private static void internTellsWordsApart() {
        String[] words = {"a", "aa", "aaa", "aaaa", "aaaaa", "aaaaaa", "ab", "ba", "A", "!", "!!", "~",
            "~~~~~~", "!~", "~!", "a!", "!a", "~~~~~!", "!~~~~~", "aaaaab", "baaaaa", "AAAAAA", "aaAaaa"};
        SixfoldTriples x = new SixfoldTriples();
        for (int round = 0; round < 2; round++) {
            for (int i = 0; i < words.length; i++) {
                CHECK.due("3: " + words[i], Check.take(x, words[i]), i);
            }
        }
        CHECK.due("3: words()", x.words(), words.length);
        for (int i = 0; i < words.length; i++) {
            for (int k = 0; k < 7; k++) {
                int want = k < words[i].length() ? words[i].charAt(k) : -1;
                CHECK.due("5: spell(" + i + ", " + k + ")", x.spell(i, k), want);
            }
        }
    }

    private static void internWithoutCharacters() {
        SixfoldTriples x = new SixfoldTriples();
        CHECK.due("3: nothing begun", x.intern(), SixfoldTriples.BAD);
        x.letter((char) 32);
        CHECK.due("3: only a wrong letter", x.intern(), SixfoldTriples.BAD);
        CHECK.due("3: words()", x.words(), 0);
        CHECK.due("3: a word then", Check.take(x, "a"), 0);
    }

    private static void internWhenFull() {
        SixfoldTriples x = Check.withWords(23);
        CHECK.due("3: the 24th", Check.take(x, "W2"), 23);
        Check.begin(x, "A");
        CHECK.due("3: known word when full", x.intern(), 0);
        Check.begin(x, "W");
        CHECK.due("3: known word when full", x.intern(), 22);
        Check.begin(x, "W3");
        CHECK.due("3: new word when full", x.intern(), SixfoldTriples.FULL);
        CHECK.due("3: new word when full again", x.intern(), SixfoldTriples.FULL);
        CHECK.due("4: words() when full", x.words(), 24);
        CHECK.due("5: no word 24", x.spell(24, 0), -1);
        Check.begin(x, "cdef");
        CHECK.due("3: the word stays begun and has six", x.letter('g'), false);
        CHECK.due("3: W3cdef", x.intern(), SixfoldTriples.FULL);
        stayingWordGoesOn();
    }

    private static void stayingWordGoesOn() {
        SixfoldTriples x = Check.withWords(22);
        Check.take(x, "12");
        Check.take(x, "123");
        Check.begin(x, "1");
        CHECK.due("3: 1 is new", x.intern(), SixfoldTriples.FULL);
        Check.begin(x, "2");
        CHECK.due("3: with 2 it is word 22", x.intern(), 22);
        CHECK.due("3: nothing begun then", x.intern(), SixfoldTriples.BAD);
    }

    private static void words() {
        SixfoldTriples x = new SixfoldTriples();
        for (int i = 0; i < 24; i++) {
            CHECK.due("4: words()", x.words(), i);
            x.letter((char) ('A' + i));
            CHECK.due("4: words() with a word begun", x.words(), i);
            x.intern();
        }
        CHECK.due("4: words()", x.words(), 24);
        Check.take(x, "A");
        CHECK.due("4: words()", x.words(), 24);
    }

    private static void spell() {
        SixfoldTriples x = new SixfoldTriples();
        Check.take(x, "~!aZ09");
        Check.take(x, "q");
        String word = "~!aZ09";
        for (int i = 0; i < 6; i++) {
            CHECK.due("5: spell(0, " + i + ")", x.spell(0, i), word.charAt(i));
        }
        CHECK.due("5: spell(1, 0)", x.spell(1, 0), 'q');
    }

    private static void spellWrong() {
        SixfoldTriples x = new SixfoldTriples();
        Check.take(x, "abc");
        x.letter('d');
        int[] wrong = {-1, 3, 6, 7, 32, Integer.MAX_VALUE, Integer.MIN_VALUE};
        for (int i : wrong) {
            CHECK.due("5: spell(0, " + i + ")", x.spell(0, i), -1);
        }
        int[] wrongTerms = {-1, 1, 23, 24, 32, Integer.MAX_VALUE, Integer.MIN_VALUE};
        for (int term : wrongTerms) {
            CHECK.due("5: spell(" + term + ", 0)", x.spell(term, 0), -1);
        }
        CHECK.due("5: both wrong", x.spell(-1, -1), -1);
    }
}
