/** The edges of promises 2 to 5 and of the terms WORD, DICTIONARY and TERM, sentence by sentence. */
public final class DictionaryEdgesTest {
    private static final int BAD = SixfoldTriples.BAD;
    private static final int FULL = SixfoldTriples.FULL;
    /** Just outside of 33 .. 126, the outermost, and such as look right in seven or eight bits. */
    private static final int[] WRONG_CODES = {32, 127, 0, 1, 31, 128, 161, 254, 289, 32801, 65534, 65535};
    private static final Check CHECK = new Check();

    public static void main(String[] args) {
        codesOfLetters();
        sixLetters();
        wrongLettersChangeNothing();
        seventhLetterChangesNothing();
        wordsOfEveryLength();
        noWordWithoutCharacters();
        knownWordIsNotTakenInAgain();
        noWordIsBegunThen();
        atMostTwentyFourWords();
        wordStaysBegun();
        fullDictionaryChangesNothing();
        noWordIsEverLost();
        howManyWords();
        charactersThatAreNot();
        wordsThatAreNot();
        begunWordIsNotSpelled();
        CHECK.end();
    }

    /** Promise 2: "false, .. when its code is not 33 .. 126" */
    private static void codesOfLetters() {
        for (int code = 0; code <= 0xFFFF; code++) {
            SixfoldTriples x = new SixfoldTriples();
            boolean right = code >= 33 && code <= 126;
            CHECK.due("2: letter " + code, x.letter((char) code), right);
            CHECK.due("2: intern() after letter " + code, x.intern(), right ? 0 : BAD);
            CHECK.due("2: spell(0, 0) after letter " + code, x.spell(0, 0), right ? code : -1);
        }
    }

    /** Promise 2: "false, .. when .. the word has 6 characters" */
    private static void sixLetters() {
        for (int code : new int[] {33, 34, 'a', 125, 126}) {
            SixfoldTriples x = new SixfoldTriples();
            for (int i = 0; i < 6; i++) {
                CHECK.due("2: letter " + code + " after " + i, x.letter((char) code), true);
            }
            for (int other = 33; other <= 126; other++) {
                CHECK.due("2: a seventh letter " + other, x.letter((char) other), false);
            }
            CHECK.due("2: intern() of six", x.intern(), 0);
            CHECK.due("2: the next word's first letter", x.letter((char) code), true);
        }
    }

    /** Promise 2: "false, changing nothing, when its code is not 33 .. 126", whatever is begun. */
    private static void wrongLettersChangeNothing() {
        for (int length = 0; length <= 6; length++) {
            String begun = "!~aZ09".substring(0, length);
            Refusals refusals = new Refusals(CHECK, length + " letters", x -> Check.begin(x, begun));
            for (int code : WRONG_CODES) {
                refusals.due("2: letter " + code, x -> x.letter((char) code) ? 1 : 0, 0);
            }
        }
    }

    /** Promise 2: "false, changing nothing, when .. the word has 6 characters" */
    private static void seventhLetterChangesNothing() {
        Refusals six = new Refusals(CHECK, "6 letters", x -> Check.begin(x, "~~~~~~"));
        Refusals full = new Refusals(CHECK, "everything full", Refusals::full);
        for (int code : new int[] {33, 'a', 126}) {
            six.due("2: letter " + code, x -> x.letter((char) code) ? 1 : 0, 0);
            full.due("2: letter " + code, x -> x.letter((char) code) ? 1 : 0, 0);
        }
    }

    /** Terms: "A WORD is a list of 1 .. 6 characters with codes 33 .. 126." */
    private static void wordsOfEveryLength() {
        for (int code : new int[] {33, 126}) {
            String six = String.valueOf((char) code).repeat(6);
            SixfoldTriples x = new SixfoldTriples();
            for (int length = 1; length <= 6; length++) {
                CHECK.due("3: a word of " + length, Check.take(x, six.substring(0, length)), length - 1);
            }
            CHECK.due("3: words of all lengths", x.words(), 6);
            for (int length = 1; length <= 6; length++) {
                CHECK.due("3: again a word of " + length, Check.take(x, six.substring(0, length)), length - 1);
                CHECK.due("5: its last character", x.spell(length - 1, length - 1), code);
                CHECK.due("5: one after its last", x.spell(length - 1, length), -1);
            }
        }
    }

    /** Promise 3: "BAD when it has no characters" */
    private static void noWordWithoutCharacters() {
        new Refusals(CHECK, "nothing", Refusals::nothing).due("3: intern()", x -> x.intern(), BAD);
        for (int words : new int[] {1, 23, 24}) {
            Refusals refusals = new Refusals(CHECK, words + " words", x -> Check.takeWords(x, words));
            refusals.due("3: intern()", x -> x.intern(), BAD);
        }
        SixfoldTriples x = new SixfoldTriples();
        x.letter((char) 32);
        x.letter((char) 127);
        CHECK.due("3: intern() after wrong letters alone", x.intern(), BAD);
    }

    /** Promise 3: "Takes the word that is begun into the dictionary, if it is not in it" */
    private static void knownWordIsNotTakenInAgain() {
        for (int words : new int[] {1, 2, 23, 24}) {
            SixfoldTriples x = Check.withWords(words);
            for (int term = 0; term < words; term++) {
                CHECK.due("3: known word " + term, Check.take(x, String.valueOf((char) ('A' + term))), term);
                CHECK.due("4: words() with known word " + term, x.words(), words);
            }
            CHECK.due("3: a new word", Check.take(x, "AA"), words < 24 ? words : FULL);
        }
    }

    /** Promise 3: "no word is begun then", be it new or known, also in a full dictionary. */
    private static void noWordIsBegunThen() {
        SixfoldTriples x = Check.withWords(22);
        String[] words = {"abcdef", "A", "abcdef", "uvwxyz", "A", "uvwxyz"};
        for (String word : words) {
            CHECK.due("3: " + word + " is taken in", Check.take(x, word) >= 0, true);
            CHECK.due("3: nothing is begun after " + word, x.intern(), BAD);
        }
        for (int i = 0; i < 6; i++) {
            CHECK.due("3: room for letter " + i, x.letter('a'), true);
        }
    }

    /**
     * Terms: "gives numbers 0, 1, .. to at most 24 different words, in the order in which they are
     * first taken in"
     */
    private static void atMostTwentyFourWords() {
        SixfoldTriples x = new SixfoldTriples();
        for (int i = 0; i < 24; i++) {
            // Falling letters, so that the order of the words is not that of their letters.
            CHECK.due("3: word " + i, Check.take(x, String.valueOf((char) ('z' - i))), i);
            CHECK.due("3: the first word again", Check.take(x, "z"), 0);
        }
        CHECK.due("3: a 25th word", Check.take(x, "new"), FULL);
        CHECK.due("4: words()", x.words(), 24);
    }

    /** Promise 3: "FULL when it is not in the dictionary, which has 24 (the word stays begun)" */
    private static void wordStaysBegun() {
        String six = "1!~Zz9";
        for (int length = 1; length <= 6; length++) {
            SixfoldTriples x = Check.withWords(23);
            Check.take(x, six);
            String begun = length < 6 ? six.substring(0, length) : "1!~Zz8";
            Check.begin(x, begun);
            CHECK.due("3: " + begun + " when full", x.intern(), FULL);
            CHECK.due("3: " + begun + " when full, again", x.intern(), FULL);
            for (int i = length; i < 6; i++) {
                CHECK.due("3: " + begun + " goes on with letter " + i, x.letter(six.charAt(i)), true);
            }
            CHECK.due("3: no seventh letter after " + begun, x.letter('a'), false);
            CHECK.due("3: what it has become", x.intern(), length < 6 ? 23 : FULL);
        }
    }

    /** Promise 3: "FULL" changes neither the dictionary nor the word that is begun. */
    private static void fullDictionaryChangesNothing() {
        new Refusals(CHECK, "everything full", Refusals::full).due("3: intern()", x -> x.intern(), FULL);
        Refusals shortWord = new Refusals(CHECK, "24 words and 1 begun", x -> {
            Check.takeWords(x, 23);
            Check.take(x, "12");
            x.letter('1');
        });
        shortWord.due("3: intern()", x -> x.intern(), FULL);
    }

    /** Terms: "it never loses one" */
    private static void noWordIsEverLost() {
        SixfoldTriples x = Check.withWords(24);
        CHECK.due("3: a 25th word", Check.take(x, "new"), FULL);
        x.merge();
        x.clear();
        Check.begin(x, "new");
        CHECK.due("3: a 25th word again", x.intern(), FULL);
        for (int term = 0; term < 24; term++) {
            CHECK.due("5: word " + term, x.spell(term, 0), 'A' + term);
            CHECK.due("5: word " + term + " has one character", x.spell(term, 1), -1);
            CHECK.due("6: word " + term + " is a term", x.insert(term, term, term), 1);
        }
        SixfoldTriples y = Check.withWords(24);
        for (int term = 23; term >= 0; term--) {
            CHECK.due("3: word " + term + " again", Check.take(y, String.valueOf((char) ('A' + term))), term);
        }
    }

    /** Promise 4: "How many words the dictionary has." */
    private static void howManyWords() {
        SixfoldTriples x = new SixfoldTriples();
        for (int i = 0; i < 24; i++) {
            CHECK.due("4: words() with " + i, x.words(), i);
            x.letter((char) ('A' + i));
            CHECK.due("4: words() with " + i + " and one begun", x.words(), i);
            x.intern();
            Check.take(x, "A");
            CHECK.due("4: words() after a known one", x.words(), i + 1);
            x.intern();
            CHECK.due("4: words() after none", x.words(), i + 1);
        }
        Check.take(x, "new");
        CHECK.due("4: words() after one that has no room", x.words(), 24);
        for (int words : new int[] {0, 1, 23, 24}) {
            SixfoldTriples y = Check.withWords(words);
            for (int length = 1; length <= 6; length++) {
                y.letter('~');
                CHECK.due("4: words() with " + words + " and " + length + " letters begun", y.words(), words);
            }
        }
    }

    /** Promise 5: "counted from 0; -1 when there is no such .. character" */
    private static void charactersThatAreNot() {
        String six = "!~aZ09";
        for (int length = 1; length <= 6; length++) {
            SixfoldTriples x = Check.withWords(3);
            int term = Check.take(x, six.substring(0, length));
            Check.take(x, "~~~~~~");
            // From far below to far above, as a wrong shift may wrap round.
            for (int i = -70; i <= 70; i++) {
                int want = i >= 0 && i < length ? six.charAt(i) : -1;
                CHECK.due("5: character " + i + " of " + length, x.spell(term, i), want);
            }
            for (int i : Check.FAR_NUMBERS) {
                CHECK.due("5: character " + i + " of " + length, x.spell(term, i), -1);
            }
        }
    }

    /** Promise 5: "-1 when there is no such word" */
    private static void wordsThatAreNot() {
        for (int words : new int[] {0, 1, 23, 24}) {
            SixfoldTriples x = Check.withWords(words);
            for (int term = -70; term <= 70; term++) {
                int want = term >= 0 && term < words ? 'A' + term : -1;
                CHECK.due("5: word " + term + " of " + words, x.spell(term, 0), want);
            }
            for (int term : Check.FAR_NUMBERS) {
                CHECK.due("5: word " + term + " of " + words, x.spell(term, 0), -1);
                CHECK.due("5: word and character " + term + " of " + words, x.spell(term, term), -1);
            }
        }
    }

    /** Promise 5 is about words, which a begun one is not before it is taken in. */
    private static void begunWordIsNotSpelled() {
        SixfoldTriples x = Check.withWords(2);
        Check.begin(x, "new");
        CHECK.due("5: the begun word", x.spell(2, 0), -1);
        CHECK.due("5: the word before it", x.spell(1, 0), 'B');
        CHECK.due("5: and its second character", x.spell(1, 1), -1);
        CHECK.due("3: taken in", x.intern(), 2);
        CHECK.due("5: then it is spelled", x.spell(2, 2), 'w');
        Check.begin(x, "other");
        CHECK.due("5: whatever is begun then", x.spell(2, 0), 'n');
    }
}
