import java.util.ArrayList;
import java.util.HashMap;
import java.util.List;
import java.util.Map;
import java.util.NoSuchElementException;
import java.util.TreeMap;
import java.util.TreeSet;

/**
 * The document once more, written by its words alone and with nothing kept that can be worked out:
 * texts are Strings, fills are tried over all letters of words, days are marked after every call.
 */
final class Model {
    static final String[] LETTERS = {"a", "b", "c", "d", "e", "f", "g", "h", new String(Character.toChars(0x1D11E))};

    static final class Puzzle {
        String[] cells;
        int[] clues;
        int hour;
        TreeSet<Integer> wrong = new TreeSet<>();
    }

    static final class Solver {
        int offset;
        int coins;
        Map<Integer, Integer> right = new HashMap<>();
        Map<Integer, Integer> paid = new HashMap<>();
        Map<Integer, Integer> helps = new HashMap<>();
        TreeSet<Integer> days = new TreeSet<>();
    }

    private final List<String> spelled = new ArrayList<>();
    final List<String> words = new ArrayList<>();
    private final List<Integer> weights = new ArrayList<>();
    private final String[] fixed = new String[9];
    final List<Integer> clueWords = new ArrayList<>();
    private final List<Integer> stages = new ArrayList<>();
    private final List<TreeSet<Integer>> uses = new ArrayList<>();
    final List<Puzzle> puzzles = new ArrayList<>();
    final List<Solver> solvers = new ArrayList<>();
    private int hour;

    private static void index(boolean is) {
        if (!is) {
            throw new IndexOutOfBoundsException();
        }
    }

    private static void argument(boolean is) {
        if (!is) {
            throw new IllegalArgumentException();
        }
    }

    private static void state(boolean is) {
        if (!is) {
            throw new IllegalStateException();
        }
    }

    private static boolean below(int index, int count) {
        return 0 <= index && index < count;
    }

    private String text() {
        return String.join("", spelled);
    }

    int spell(int letter) {
        index(below(letter, 9));
        state(spelled.size() < 3);
        spelled.add(LETTERS[letter]);
        return text().length();
    }

    int insert(int letter) {
        index(below(letter, 9));
        state(spelled.size() < 3);
        spelled.add(0, LETTERS[letter]);
        return text().length();
    }

    int turn() {
        java.util.Collections.reverse(spelled);
        return spelled.size();
    }

    int clearSpelled() {
        int before = spelled.size();
        spelled.clear();
        return before;
    }

    int charAt(int place) {
        if (!below(place, text().length())) {
            throw new NoSuchElementException();
        }
        return text().charAt(place);
    }

    int addWord(int weight) {
        argument(below(weight, 100));
        state(spelled.size() == 3 && !words.contains(text()) && words.size() < 30);
        words.add(text());
        weights.add(weight);
        return words.size() - 1;
    }

    int setWeight(int word, int weight) {
        index(below(word, words.size()));
        argument(below(weight, 100));
        return weights.set(word, weight);
    }

    int wordAt(int place) {
        List<String> sorted = new ArrayList<>(words);
        sorted.sort(String::compareTo);
        return below(place, sorted.size()) ? words.indexOf(sorted.get(place)) : -1;
    }

    int beginning() {
        return (int) words.stream().filter(w -> w.startsWith(text())).count();
    }

    int fix(int cell, int letter) {
        index(below(cell, 9) && (letter == -1 || below(letter, 9)));
        int before = letterNumber(fixed[cell]);
        fixed[cell] = letter == -1 ? null : LETTERS[letter];
        return before;
    }

    private static int letterNumber(String letter) {
        return java.util.Arrays.asList(LETTERS).indexOf(letter);
    }

    private static String letterOf(String word, int place) {
        int from = word.offsetByCodePoints(0, place);
        return word.substring(from, word.offsetByCodePoints(from, 1));
    }

    /** The six entries of a fill with these rows, or null if they make none. */
    private String[] entries(String[] rows) {
        String[] entries = {rows[0], rows[1], rows[2], "", "", ""};
        for (int cell = 0; cell < 9; cell++) {
            String letter = letterOf(rows[cell / 3], cell % 3);
            if (fixed[cell] != null && !fixed[cell].equals(letter)) {
                return null;
            }
            entries[3 + cell % 3] += letter;
        }
        for (String entry : entries) {
            if (!words.contains(entry)) {
                return null;
            }
        }
        return entries;
    }

    private int weigh(String[] entries) {
        int weight = 0;
        for (String entry : entries) {
            weight += weights.get(words.indexOf(entry));
        }
        return weight;
    }

    private List<String[]> allFills() {
        List<String[]> all = new ArrayList<>();
        for (String one : words) {
            for (String two : words) {
                for (String three : words) {
                    String[] entries = entries(new String[] {one, two, three});
                    if (entries != null) {
                        all.add(entries);
                    }
                }
            }
        }
        return all;
    }

    private String[] best() {
        String[] best = null;
        for (String[] fill : allFills()) {
            if (best == null || isBetter(fill, best)) {
                best = fill;
            }
        }
        return best;
    }

    private boolean isBetter(String[] one, String[] other) {
        if (weigh(one) != weigh(other)) {
            return weigh(one) > weigh(other);
        }
        for (int row = 0; row < 3; row++) {
            if (!one[row].equals(other[row])) {
                return one[row].compareTo(other[row]) < 0;
            }
        }
        return false;
    }

    int fillWeight() {
        String[] best = best();
        return best == null ? -1 : weigh(best);
    }

    int fills() {
        return allFills().size();
    }

    int fillAt(int cell) {
        index(below(cell, 9));
        String[] best = best();
        if (best == null) {
            throw new NoSuchElementException();
        }
        return letterNumber(letterOf(best[cell / 3], cell % 3));
    }

    int clue(int word) {
        index(below(word, words.size()));
        state(clueWords.size() < 60);
        clueWords.add(word);
        stages.add(0);
        uses.add(new TreeSet<>());
        return clueWords.size() - 1;
    }

    int edit(int clue, boolean isFine) {
        index(below(clue, stages.size()));
        state(stages.get(clue) < 2);
        stages.set(clue, isFine ? stages.get(clue) + 1 : 0);
        return stages.get(clue);
    }

    int lastUsed(int clue) {
        index(below(clue, stages.size()));
        return uses.get(clue).isEmpty() ? -1 : uses.get(clue).last();
    }

    int pass(int hours) {
        argument(1 <= hours && hours <= 2000);
        state(hour + hours <= 30000);
        hour += hours;
        return hour;
    }

    int now() {
        return hour;
    }

    int publish() {
        int today = hour / 24;
        String[] best = best();
        state(best != null && puzzles.size() < 20);
        for (Puzzle p : puzzles) {
            state(p.hour / 24 != today);
        }
        Puzzle puzzle = new Puzzle();
        puzzle.hour = hour;
        puzzle.cells = new String[9];
        for (int cell = 0; cell < 9; cell++) {
            puzzle.cells[cell] = letterOf(best[cell / 3], cell % 3);
        }
        puzzle.clues = new int[6];
        List<Integer> taken = new ArrayList<>();
        for (int e = 0; e < 6; e++) {
            TreeMap<Integer, Integer> byLast = new TreeMap<>();
            for (int c = 0; c < stages.size(); c++) {
                boolean isOf = words.get(clueWords.get(c)).equals(best[e]) && stages.get(c) == 2;
                boolean isRested = uses.get(c).subSet(today - 364, true, today, true).isEmpty();
                if (isOf && isRested && !taken.contains(c)) {
                    byLast.putIfAbsent(lastUsed(c), c);
                }
            }
            state(!byLast.isEmpty());
            puzzle.clues[e] = byLast.firstEntry().getValue();
            taken.add(puzzle.clues[e]);
        }
        for (int c : taken) {
            uses.get(c).add(today);
        }
        puzzles.add(puzzle);
        return puzzles.size() - 1;
    }

    /** Whether a clue of the puzzle was used on an earlier day, too. */
    boolean hasClueUsedAgain(int puzzle) {
        for (int clue : puzzles.get(puzzle).clues) {
            if (uses.get(clue).size() > 1) {
                return true;
            }
        }
        return false;
    }

    int letter(int puzzle, int cell) {
        return letterNumber(puzzles.get(puzzle).cells[cell]);
    }

    int clueOf(int puzzle, int entry) {
        index(below(puzzle, puzzles.size()) && below(entry, 6));
        return puzzles.get(puzzle).clues[entry];
    }

    int addSolver(int offset, int coins) {
        argument(-12 <= offset && offset <= 14 && 0 <= coins && coins <= 1000);
        state(solvers.size() < 6);
        Solver s = new Solver();
        s.offset = offset;
        s.coins = coins;
        solvers.add(s);
        return solvers.size() - 1;
    }

    private boolean isOpen(int puzzle, int cell) {
        TreeSet<Integer> wrong = puzzles.get(puzzle).wrong;
        return wrong.contains(cell / 3) || wrong.contains(3 + cell % 3);
    }

    private void unfinished(int solver, int puzzle, int cell) {
        state(!solvers.get(solver).right.containsKey(9 * puzzle + cell) && !isOpen(puzzle, cell));
    }

    int enter(int solver, int puzzle, int cell, int letter) {
        index(below(solver, solvers.size()) && below(puzzle, puzzles.size()) && below(cell, 9) && below(letter, 9));
        unfinished(solver, puzzle, cell);
        if (!puzzles.get(puzzle).cells[cell].equals(LETTERS[letter])) {
            return 0;
        }
        solvers.get(solver).right.put(9 * puzzle + cell, hour);
        markDays();
        return 1;
    }

    int help(int solver, int puzzle, int cell) {
        index(below(solver, solvers.size()) && below(puzzle, puzzles.size()) && below(cell, 9));
        unfinished(solver, puzzle, cell);
        Solver s = solvers.get(solver);
        int cost = (int) Math.min(40, 5 * Math.pow(2, s.helps.getOrDefault(puzzle, 0)));
        state(s.coins >= cost);
        s.coins -= cost;
        s.helps.merge(puzzle, 1, Integer::sum);
        s.paid.put(9 * puzzle + cell, cost);
        s.right.put(9 * puzzle + cell, hour);
        markDays();
        return letterNumber(puzzles.get(puzzle).cells[cell]);
    }

    int judge(int puzzle, int entry) {
        index(below(puzzle, puzzles.size()) && below(entry, 6));
        state(!puzzles.get(puzzle).wrong.contains(entry));
        int[] before = new int[solvers.size()];
        for (int s = 0; s < before.length; s++) {
            before[s] = streak(s);
        }
        puzzles.get(puzzle).wrong.add(entry);
        for (int cell = 0; cell < 9; cell++) {
            for (Solver s : solvers) {
                Integer paid = isOpen(puzzle, cell) ? s.paid.remove(9 * puzzle + cell) : null;
                s.coins += paid == null ? 0 : paid;
            }
        }
        markDays();
        int longer = 0;
        for (int s = 0; s < before.length; s++) {
            longer += streak(s) > before[s] ? 1 : 0;
        }
        return longer;
    }

    int solvedAt(int solver, int puzzle) {
        index(below(solver, solvers.size()) && below(puzzle, puzzles.size()));
        List<Integer> hours = new ArrayList<>();
        boolean some = false;
        for (int cell = 0; cell < 9; cell++) {
            Integer since = solvers.get(solver).right.get(9 * puzzle + cell);
            some |= since != null;
            if (!isOpen(puzzle, cell)) {
                if (since == null) {
                    return -1;
                }
                hours.add(since);
            }
        }
        if (!some) {
            return -1;
        }
        return hours.isEmpty() ? puzzles.get(puzzle).hour : java.util.Collections.max(hours);
    }

    private void markDays() {
        for (int s = 0; s < solvers.size(); s++) {
            for (int p = 0; p < puzzles.size(); p++) {
                int at = solvedAt(s, p);
                if (at != -1) {
                    solvers.get(s).days.add(day(s, at));
                }
            }
        }
    }

    private int day(int solver, int at) {
        return (int) Math.floor((at + solvers.get(solver).offset) / 24.0);
    }

    int open(int puzzle) {
        index(below(puzzle, puzzles.size()));
        int set = 0;
        for (int cell = 0; cell < 9; cell++) {
            set += isOpen(puzzle, cell) ? 1 << cell : 0;
        }
        return set;
    }

    int coins(int solver) {
        index(below(solver, solvers.size()));
        return solvers.get(solver).coins;
    }

    int streak(int solver) {
        index(below(solver, solvers.size()));
        TreeSet<Integer> days = solvers.get(solver).days;
        int day = day(solver, hour);
        if (!days.contains(day)) {
            day--;
        }
        int streak = 0;
        while (days.contains(day - streak)) {
            streak++;
        }
        return streak;
    }

    int solverAt(int place) {
        List<Integer> all = new ArrayList<>();
        for (int s = 0; s < solvers.size(); s++) {
            all.add(s);
        }
        all.sort((a, b) -> streak(a) != streak(b) ? streak(b) - streak(a) : coins(b) - coins(a));
        return below(place, all.size()) ? all.get(place) : -1;
    }
}
