/** Who likes somebody that likes them too? */
public final class Example {
    public static void main(String[] args) {
        SixfoldTriples store = new SixfoldTriples();
        int ann = take(store, "ann");
        int likes = take(store, "likes");
        int bob = take(store, "bob");
        int cid = take(store, "cid");
        store.insert(ann, likes, bob);
        store.insert(bob, likes, ann);
        store.insert(cid, likes, ann);

        store.where(32, likes, 33);
        store.where(33, likes, 32);
        int answers = store.run(33, 32, -1);
        System.out.println(answers + " answers");
        for (int k = 0; k < answers && k < 200; k++) {
            String who = spelled(store, store.answer(k, 32));
            String whom = spelled(store, store.answer(k, 33));
            System.out.println(who + " likes " + whom);
        }
    }

    private static int take(SixfoldTriples store, String word) {
        for (int i = 0; i < word.length(); i++) {
            store.letter(word.charAt(i));
        }
        return store.intern();
    }

    private static String spelled(SixfoldTriples store, int term) {
        StringBuilder word = new StringBuilder();
        for (int i = 0; store.spell(term, i) != -1; i++) {
            word.append((char) store.spell(term, i));
        }
        return word.toString();
    }
}
