/** Promises 2 to 5, with ordinary words; their edges are in DictionaryEdgesTest. */
public final class DictionaryTest {
    private static final Check CHECK = new Check();

    public static void main(String[] args) {
        internNumbers();
        internTellsWordsApart();
        wrongLettersBetween();
        CHECK.end();
    }

    private static void internNumbers() {
        SixfoldTriples x = new SixfoldTriples();
        CHECK.due("3: first", Check.take(x, "one"), 0);
        CHECK.due("3: second", Check.take(x, "two"), 1);
        CHECK.due("3: first again", Check.take(x, "one"), 0);
        CHECK.due("3: third", Check.take(x, "three"), 2);
        CHECK.due("3: second again", Check.take(x, "two"), 1);
        CHECK.due("3: no word is begun", x.intern(), SixfoldTriples.BAD);
        CHECK.due("4: words()", x.words(), 3);
    }

    private static void internTellsWordsApart() {
        String[] words = {"a", "aa", "aaa", "aaaa", "aaaaa", "aaaaaa", "ab", "ba", "A", "!", "!!", "~",
            "~~~~~~", "!~", "~!", "a!", "!a", "~~~~~!", "!~~~~~", "aaaaab", "baaaaa", "AAAAAA", "aaAaaa"};
        SixfoldTriples x = new SixfoldTriples();
        for (int round = 0; round < 2; round++) {
            for (int i = 0; i < words.length; i++) {
                CHECK.due("3: " + words[i], Check.take(x, words[i]), i);
            }
        }
        CHECK.due("3: words()", x.words(), words.length);
        for (int i = 0; i < words.length; i++) {
            for (int k = 0; k < 7; k++) {
                int want = k < words[i].length() ? words[i].charAt(k) : -1;
                CHECK.due("5: spell(" + i + ", " + k + ")", x.spell(i, k), want);
            }
        }
    }

    private static void wrongLettersBetween() {
        SixfoldTriples x = new SixfoldTriples();
        String word = "~!aZ09";
        for (int i = 0; i < 6; i++) {
            CHECK.due("2: letter " + i, x.letter(word.charAt(i)), true);
            CHECK.due("2: a wrong letter after " + i, x.letter(' '), false);
        }
        CHECK.due("3: intern()", x.intern(), 0);
        for (int i = 0; i < 6; i++) {
            CHECK.due("5: spell(0, " + i + ")", x.spell(0, i), word.charAt(i));
        }
    }
}
