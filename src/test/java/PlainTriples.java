import java.util.ArrayList;
import java.util.Arrays;
import java.util.HashMap;
import java.util.HashSet;
import java.util.List;
import java.util.Map;
import java.util.Set;
import java.util.TreeSet;

/**
 * The document word for word, with no thought of speed: what SixfoldTriples is compared with.
 * It shares no code and no idea with the class, so that a fault is not made twice.
 */
final class PlainTriples {
    private static final int[][] WAYS = {{0, 1, 2}, {0, 2, 1}, {1, 0, 2}, {1, 2, 0}, {2, 0, 1}, {2, 1, 0}};

    private final List<String> dictionary = new ArrayList<>();
    private String begun = "";
    private final Set<List<Integer>> present = new HashSet<>();
    private final Set<List<Integer>> settled = new HashSet<>();
    private int merges = 0;
    private final List<List<Integer>> question = new ArrayList<>();
    private final List<Map<Integer, Integer>> answers = new ArrayList<>();
    private int live = 0;

    boolean letter(char c) {
        if (c < 33 || c > 126 || begun.length() == 6) {
            return false;
        }
        begun += c;
        return true;
    }

    int intern() {
        if (begun.isEmpty()) {
            return -1;
        }
        if (!dictionary.contains(begun)) {
            if (dictionary.size() == 24) {
                return -2;
            }
            dictionary.add(begun);
        }
        int number = dictionary.indexOf(begun);
        begun = "";
        return number;
    }

    int words() {
        return dictionary.size();
    }

    int spell(int term, int i) {
        boolean isThere = isTerm(term) && i >= 0 && i < dictionary.get(term).length();
        return isThere ? dictionary.get(term).charAt(i) : -1;
    }

    private boolean isTerm(int number) {
        return number >= 0 && number < dictionary.size();
    }

    int insert(int subject, int verb, int object) {
        if (!isTerm(subject) || !isTerm(verb) || !isTerm(object)) {
            return -1;
        }
        if (present.contains(List.of(subject, verb, object))) {
            return 0;
        }
        if (present.size() == 60) {
            return -2;
        }
        mergeBeforeChange();
        present.add(List.of(subject, verb, object));
        return 1;
    }

    int remove(int subject, int verb, int object) {
        if (!isTerm(subject) || !isTerm(verb) || !isTerm(object)) {
            return -1;
        }
        if (!present.contains(List.of(subject, verb, object))) {
            return 0;
        }
        mergeBeforeChange();
        present.remove(List.of(subject, verb, object));
        return 1;
    }

    private void mergeBeforeChange() {
        if (pending() == 12) {
            merge();
        }
    }

    int merge() {
        int were = pending();
        settled.clear();
        settled.addAll(present);
        merges++;
        return were;
    }

    int size() {
        return present.size();
    }

    int pending() {
        Set<List<Integer>> either = new HashSet<>(present);
        either.addAll(settled);
        Set<List<Integer>> both = new HashSet<>(present);
        both.retainAll(settled);
        return either.size() - both.size();
    }

    int merges() {
        return merges;
    }

    int triple(int way, int k) {
        if (way < 0 || way > 5 || k < 0 || k >= present.size()) {
            return -1;
        }
        List<List<Integer>> sorted = new ArrayList<>(present);
        sorted.sort((a, b) -> {
            for (int part : WAYS[way]) {
                if (!a.get(part).equals(b.get(part))) {
                    return a.get(part).compareTo(b.get(part));
                }
            }
            return 0;
        });
        List<Integer> triple = sorted.get(k);
        return (triple.get(0) * 32 + triple.get(1)) * 32 + triple.get(2);
    }

    private static boolean isVariable(int number) {
        return number == 32 || number == 33 || number == 34;
    }

    int where(int subject, int verb, int object) {
        for (int number : new int[] {subject, verb, object}) {
            if (!isTerm(number) && !isVariable(number)) {
                return -1;
            }
        }
        if (question.size() == 4) {
            return -2;
        }
        question.add(List.of(subject, verb, object));
        return question.size();
    }

    void clear() {
        question.clear();
    }

    int run(int first, int second, int third) {
        List<Integer> row = new ArrayList<>(Arrays.asList(first, second, third));
        while (!row.isEmpty() && row.get(row.size() - 1) == -1) {
            row.remove(row.size() - 1);
        }
        Set<Integer> variables = variables();
        if (question.isEmpty() || row.size() != variables.size() || !variables.equals(new TreeSet<>(row))) {
            return -1;
        }
        answers.clear();
        live = 0;
        for (int bound = 1; bound <= row.size(); bound++) {
            live += liveBindings(row.subList(0, bound)).size();
        }
        for (Map<Integer, Integer> binding : bindings(row)) {
            if (question.stream().allMatch(pattern -> someAgrees(pattern, binding))) {
                answers.add(binding);
            }
        }
        return answers.size();
    }

    /** The variables of the question. */
    Set<Integer> variables() {
        Set<Integer> variables = new TreeSet<>();
        question.forEach(pattern -> variables.addAll(variablesOf(pattern)));
        return variables;
    }

    private static Set<Integer> variablesOf(List<Integer> pattern) {
        Set<Integer> variables = new HashSet<>(pattern);
        variables.removeIf(number -> !isVariable(number));
        return variables;
    }

    /** All bindings of some variables, live or not, in the order of the row. */
    private List<Map<Integer, Integer>> bindings(List<Integer> row) {
        List<Map<Integer, Integer>> all = new ArrayList<>();
        all.add(new HashMap<>());
        for (int variable : row) {
            List<Map<Integer, Integer>> longer = new ArrayList<>();
            for (Map<Integer, Integer> binding : all) {
                for (int term = 0; term < dictionary.size(); term++) {
                    Map<Integer, Integer> next = new HashMap<>(binding);
                    next.put(variable, term);
                    longer.add(next);
                }
            }
            all = longer;
        }
        return all;
    }

    private List<Map<Integer, Integer>> liveBindings(List<Integer> bound) {
        List<Map<Integer, Integer>> found = bindings(bound);
        found.removeIf(binding -> !isLive(binding));
        return found;
    }

    private boolean isLive(Map<Integer, Integer> binding) {
        for (List<Integer> pattern : question) {
            Set<Integer> variables = variablesOf(pattern);
            boolean counts = variables.isEmpty();
            for (int variable : variables) {
                counts |= binding.containsKey(variable);
            }
            if (counts && !someAgrees(pattern, binding)) {
                return false;
            }
        }
        return true;
    }

    private boolean someAgrees(List<Integer> pattern, Map<Integer, Integer> binding) {
        for (List<Integer> triple : present) {
            if (agrees(triple, pattern, binding)) {
                return true;
            }
        }
        return false;
    }

    private static boolean agrees(List<Integer> triple, List<Integer> pattern, Map<Integer, Integer> binding) {
        for (int i = 0; i < 3; i++) {
            int number = pattern.get(i);
            int has = triple.get(i);
            if (!isVariable(number) && number != has) {
                return false;
            }
            if (binding.containsKey(number) && binding.get(number) != has) {
                return false;
            }
            for (int j = 0; j < i; j++) {
                if (isVariable(number) && pattern.get(j) == number && triple.get(j) != has) {
                    return false;
                }
            }
        }
        return true;
    }

    /** How many answers the latest run had. */
    int answerCount() {
        return answers.size();
    }

    int answer(int k, int variable) {
        if (k < 0 || k >= 200 || k >= answers.size()) {
            return -1;
        }
        return answers.get(k).getOrDefault(variable, -1);
    }

    int live() {
        return live;
    }
}
