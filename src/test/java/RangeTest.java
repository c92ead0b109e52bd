import java.util.TreeSet;

/**
 * The ends of each range of each argument: the first and the last value that is taken and what they
 * answer, the values just outside, and values far outside that come back into the range if an int, a
 * short, a byte or a shift wraps around. A value outside must be refused, and nothing may change by it.
 */
public final class RangeTest {
    private static final Check check = new Check();
    private static final Refusals refusals = new Refusals(check);

    private static final String BOUNDS = Calls.BOUNDS;
    private static final String ARGUMENT = Calls.ARGUMENT;
    private static final String STATE = Calls.STATE;
    private static final String ELEMENT = Calls.ELEMENT;
    private static final String NONE = "-1";

    public static void main(String[] args) {
        text();
        words();
        fills();
        clues();
        hours();
        newSolvers();
        puzzles();
        solvers();
        cells();
        entries();
        letters();
        check.end();
    }

    /** The sign ? stands for the argument; a value outside is answered by what is named last. */
    private static void range(int promise, Start start, String call, int least, String dueLeast, int most,
            String dueMost, String outside) {
        taken(promise, start, call.replace("?", "" + least), dueLeast);
        taken(promise, start, call.replace("?", "" + most), dueMost);
        for (int value : outside(least, most)) {
            refusals.due(promise, start, call.replace("?", "" + value), outside);
        }
    }

    private static void never(int promise, Start start, String call, String outside) {
        for (int value : outside(0, -1)) {
            refusals.due(promise, start, call.replace("?", "" + value), outside);
        }
        refusals.due(promise, start, call.replace("?", "0"), outside);
    }

    private static void taken(int promise, Start start, String call, String due) {
        String got = Calls.answer(start.make(), call);
        check.holds(promise + ": " + call + " in " + start + " answered " + got + ", due is " + due, got.equals(due));
    }

    private static TreeSet<Integer> outside(int least, int most) {
        TreeSet<Integer> values = new TreeSet<>();
        int[] wraps = {32, 64, 256, 65536, 1 << 24, 1 << 30, Integer.MIN_VALUE};
        for (int wrap : wraps) {
            values.add(least + wrap);
            values.add(most + wrap);
            values.add(least - wrap);
        }
        values.add(least - 1);
        values.add(most + 1);
        values.add(Integer.MIN_VALUE);
        values.add(Integer.MAX_VALUE);
        values.removeIf(value -> least <= value && value <= most);
        return values;
    }

    private static void text() {
        range(2, Start.EMPTY, "spell ?", 0, "1", 8, "2", BOUNDS);
        range(2, Start.TWO_LETTERS, "spell ?", 0, "4", 8, "5", BOUNDS);
        range(2, Start.FULL_TEXT, "spell ?", 0, STATE, 8, STATE, BOUNDS);
        range(3, Start.EMPTY, "insert ?", 0, "1", 8, "2", BOUNDS);
        range(3, Start.TWO_LETTERS, "insert ?", 0, "4", 8, "5", BOUNDS);
        range(3, Start.FULL_TEXT, "insert ?", 0, STATE, 8, STATE, BOUNDS);
        never(6, Start.EMPTY, "charAt ?", ELEMENT);
        range(6, Start.TWO_LETTERS, "charAt ?", 0, "97", 2, "" + 0xDD1E, ELEMENT);
        range(6, Start.FULL_TEXT, "charAt ?", 0, "" + 0xD834, 4, "" + 0xDD1E, ELEMENT);
    }

    private static void words() {
        range(7, Start.FULL_TEXT, "addWord ?", 0, "0", 99, "0", ARGUMENT);
        range(7, Start.EMPTY, "addWord ?", 0, STATE, 99, STATE, ARGUMENT);
        range(7, Start.TWO_LETTERS, "addWord ?", 0, STATE, 99, STATE, ARGUMENT);
        range(7, Start.ONE_WORD, "addWord ?", 0, STATE, 99, STATE, ARGUMENT);
        range(7, Start.FULL_WORDS, "addWord ?", 0, STATE, 99, STATE, ARGUMENT);
        never(8, Start.EMPTY, "setWeight ? 5", BOUNDS);
        never(8, Start.EMPTY, "setWeight ? 100", BOUNDS);
        range(8, Start.ONE_WORD, "setWeight ? 5", 0, "1", 0, "1", BOUNDS);
        range(8, Start.FULL_WORDS, "setWeight ? 5", 0, "0", 29, "29", BOUNDS);
        range(8, Start.FULL_WORDS, "setWeight ? 100", 0, ARGUMENT, 29, ARGUMENT, BOUNDS);
        range(8, Start.FULL_WORDS, "setWeight 29 ?", 0, "29", 99, "29", ARGUMENT);
        never(9, Start.EMPTY, "wordAt ?", NONE);
        range(9, Start.ONE_WORD, "wordAt ?", 0, "0", 0, "0", NONE);
        range(9, Start.FULL_WORDS, "wordAt ?", 0, "0", 29, "29", NONE);
    }

    private static void fills() {
        range(11, Start.EMPTY, "fix ? 8", 0, NONE, 8, NONE, BOUNDS);
        range(11, Start.NO_FILL, "fix ? -1", 0, "8", 8, "8", BOUNDS);
        range(11, Start.NO_FILL, "fix 8 ?", -1, "8", 8, "8", BOUNDS);
        range(15, Start.EMPTY, "fillAt ?", 0, ELEMENT, 8, ELEMENT, BOUNDS);
        range(15, Start.NO_FILL, "fillAt ?", 0, ELEMENT, 8, ELEMENT, BOUNDS);
        range(15, Start.ONE_WORD, "fillAt ?", 0, "0", 8, "0", BOUNDS);
        range(15, Start.BUSY, "fillAt ?", 0, "0", 8, "1", BOUNDS);
    }

    private static void clues() {
        never(16, Start.EMPTY, "clue ?", BOUNDS);
        range(16, Start.ONE_WORD, "clue ?", 0, "0", 0, "0", BOUNDS);
        range(16, Start.FULL_WORDS, "clue ?", 0, "0", 29, "0", BOUNDS);
        range(16, Start.FULL_CLUES, "clue ?", 0, STATE, 0, STATE, BOUNDS);
        never(17, Start.ONE_WORD, "edit ? 1", BOUNDS);
        never(17, Start.ONE_WORD, "edit ? 0", BOUNDS);
        range(17, Start.FULL_CLUES, "edit ? 1", 0, "1", 59, STATE, BOUNDS);
        range(17, Start.FULL_CLUES, "edit ? 0", 0, "0", 59, STATE, BOUNDS);
        taken(17, Start.FULL_CLUES, "edit 58 0", "0");
        taken(17, Start.FULL_CLUES, "edit 58 1", "2");
        never(18, Start.ONE_WORD, "lastUsed ?", BOUNDS);
        range(18, Start.FULL_CLUES, "lastUsed ?", 0, NONE, 59, NONE, BOUNDS);
        range(18, Start.FULL_PUZZLES, "lastUsed ?", 0, "410", 59, "419", BOUNDS);
    }

    private static void hours() {
        range(19, Start.EMPTY, "pass ?", 1, "1", 2000, "2000", ARGUMENT);
        range(19, Start.LAST_HOURS, "pass ?", 1, "28001", 2000, "30000", ARGUMENT);
        range(19, Start.TOO_LATE_FOR_MOST, "pass ?", 1, "28002", 2000, STATE, ARGUMENT);
        range(19, Start.LAST_HOUR, "pass ?", 1, STATE, 2000, STATE, ARGUMENT);
    }

    private static void newSolvers() {
        range(23, Start.EMPTY, "addSolver ? 7", -12, "0", 14, "0", ARGUMENT);
        range(23, Start.EMPTY, "addSolver 3 ?", 0, "0", 1000, "0", ARGUMENT);
        range(23, Start.FULL_SOLVERS, "addSolver ? 7", -12, STATE, 14, STATE, ARGUMENT);
        range(23, Start.FULL_SOLVERS, "addSolver 3 ?", 0, STATE, 1000, STATE, ARGUMENT);
    }

    private static void puzzles() {
        String[] calls = {"clueOf ? 0", "judge ? 0", "open ?"};
        for (String call : calls) {
            never(21, Start.SIX_WORDS, call, BOUNDS);
        }
        range(22, Start.ONE_PUZZLE, "clueOf ? 5", 0, "5", 0, "5", BOUNDS);
        range(22, Start.FULL_PUZZLES, "clueOf ? 5", 0, "5", 19, "59", BOUNDS);
        range(24, Start.ONE_PUZZLE, "enter 0 ? 0 0", 0, "1", 0, "1", BOUNDS);
        range(24, Start.FULL_PUZZLES, "enter 0 ? 8 0", 0, "1", 19, "1", BOUNDS);
        range(25, Start.FULL_SOLVERS, "help 5 ? 0", 0, "0", 0, "0", BOUNDS);
        range(25, Start.FULL_PUZZLES, "help 0 ? 8", 0, "0", 19, "0", BOUNDS);
        range(26, Start.ONE_PUZZLE, "judge ? 5", 0, "0", 0, "0", BOUNDS);
        range(26, Start.FULL_PUZZLES, "judge ? 5", 0, "0", 19, "0", BOUNDS);
        range(27, Start.ONE_PUZZLE, "solvedAt 0 ?", 0, NONE, 0, NONE, BOUNDS);
        range(27, Start.FULL_PUZZLES, "solvedAt 0 ?", 0, NONE, 19, NONE, BOUNDS);
        range(27, Start.BUSY, "solvedAt 2 ?", 0, "29", 1, "53", BOUNDS);
        range(28, Start.BUSY, "open ?", 0, "7", 1, "0", BOUNDS);
        range(28, Start.FULL_PUZZLES, "open ?", 0, "0", 19, "0", BOUNDS);
    }

    private static void solvers() {
        String[] calls = {"enter ? 0 0 0", "help ? 0 0", "solvedAt ? 0", "coins ?", "streak ?", "streakAnew ?"};
        for (String call : calls) {
            never(23, Start.EMPTY, call, BOUNDS);
        }
        range(24, Start.ONE_PUZZLE, "enter ? 0 0 0", 0, "1", 0, "1", BOUNDS);
        range(24, Start.FULL_SOLVERS, "enter ? 0 0 0", 0, "1", 5, "1", BOUNDS);
        range(25, Start.FULL_PUZZLES, "help ? 0 0", 0, "0", 0, "0", BOUNDS);
        range(25, Start.FULL_SOLVERS, "help ? 0 0", 0, STATE, 5, "0", BOUNDS);
        range(27, Start.FULL_SOLVERS, "solvedAt ? 0", 0, NONE, 5, NONE, BOUNDS);
        range(27, Start.BUSY, "solvedAt ? 0", 0, NONE, 2, "29", BOUNDS);
        range(29, Start.FULL_SOLVERS, "coins ?", 0, "0", 5, "50", BOUNDS);
        range(29, Start.BUSY, "coins ?", 0, "90", 2, "0", BOUNDS);
        range(30, Start.FULL_SOLVERS, "streak ?", 0, "0", 5, "0", BOUNDS);
        range(30, Start.BUSY, "streak ?", 0, "0", 2, "2", BOUNDS);
        range(31, Start.FULL_SOLVERS, "streakAnew ?", 0, "0", 5, "0", BOUNDS);
        range(31, Start.BUSY, "streakAnew ?", 0, "0", 2, "2", BOUNDS);
        never(32, Start.EMPTY, "solverAt ?", NONE);
        range(32, Start.ONE_PUZZLE, "solverAt ?", 0, "0", 0, "0", NONE);
        range(32, Start.FULL_SOLVERS, "solverAt ?", 0, "5", 5, "0", NONE);
        range(32, Start.BUSY, "solverAt ?", 0, "2", 2, "1", NONE);
    }

    private static void cells() {
        range(24, Start.ONE_PUZZLE, "enter 0 0 ? 0", 0, "1", 8, "1", BOUNDS);
        range(24, Start.FULL_PUZZLES, "enter 0 18 ? 0", 0, "1", 8, "1", BOUNDS);
        range(24, Start.BUSY, "enter 0 0 ? 1", 0, STATE, 8, "1", BOUNDS);
        range(25, Start.FULL_PUZZLES, "help 0 18 ?", 0, "0", 8, "0", BOUNDS);
        range(25, Start.BUSY, "help 0 1 ?", 0, "0", 8, "1", BOUNDS);
        range(25, Start.BUSY, "help 2 1 ?", 0, STATE, 8, STATE, BOUNDS);
    }

    private static void entries() {
        range(22, Start.ONE_PUZZLE, "clueOf 0 ?", 0, "0", 5, "5", BOUNDS);
        range(22, Start.FULL_PUZZLES, "clueOf 18 ?", 0, "48", 5, "53", BOUNDS);
        range(26, Start.FULL_PUZZLES, "judge 18 ?", 0, "0", 5, "0", BOUNDS);
        range(26, Start.BUSY, "judge 0 ?", 0, STATE, 5, "0", BOUNDS);
    }

    private static void letters() {
        range(24, Start.ONE_PUZZLE, "enter 0 0 0 ?", 0, "1", 8, "0", BOUNDS);
        range(24, Start.BUSY, "enter 0 1 2 ?", 0, "0", 8, "1", BOUNDS);
        range(24, Start.BUSY, "enter 2 1 8 ?", 0, STATE, 8, STATE, BOUNDS);
        range(24, Start.BUSY, "enter 0 0 0 ?", 0, STATE, 8, STATE, BOUNDS);
    }
}
