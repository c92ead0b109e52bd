/**
 * All that a call is refused for by the state, each alone; and if several exceptions apply, the one
 * that is named first. Nothing may change by any of these calls.
 */
public final class RefusedTest {
    private static final Check check = new Check();
    private static final Refusals refusals = new Refusals(check);

    public static void main(String[] args) {
        fullText();
        wordsThatCannotBeAdded();
        weights();
        fixing();
        noFill();
        clues();
        hours();
        publishing();
        solvers();
        entering();
        helping();
        judging();
        check.end();
    }

    private static void bounds(int promise, Start start, String call) {
        refusals.due(promise, start, call, Calls.BOUNDS);
    }

    private static void argument(int promise, Start start, String call) {
        refusals.due(promise, start, call, Calls.ARGUMENT);
    }

    private static void state(int promise, Start start, String call) {
        refusals.due(promise, start, call, Calls.STATE);
    }

    private static void fullText() {
        for (int letter = 0; letter <= 8; letter++) {
            state(2, Start.FULL_TEXT, "spell " + letter);
            state(3, Start.FULL_TEXT, "insert " + letter);
            state(2, Start.ONE_WORD, "spell " + letter);
            state(3, Start.ONE_WORD, "insert " + letter);
        }
        bounds(2, Start.FULL_TEXT, "spell -1");
        bounds(2, Start.FULL_TEXT, "spell 9");
        bounds(3, Start.FULL_TEXT, "insert -1");
        bounds(3, Start.FULL_TEXT, "insert 9");
    }

    private static void wordsThatCannotBeAdded() {
        state(7, Start.EMPTY, "addWord 0");
        state(7, Start.TWO_LETTERS, "addWord 0");
        state(7, Start.ONE_WORD, "addWord 0");
        state(7, Start.FULL_WORDS, "addWord 0");
        state(7, Start.BUSY, "addWord 0");
        Start[] starts = {Start.EMPTY, Start.TWO_LETTERS, Start.ONE_WORD, Start.FULL_WORDS, Start.BUSY};
        for (Start start : starts) {
            argument(7, start, "addWord -1");
            argument(7, start, "addWord 100");
        }
    }

    private static void weights() {
        bounds(8, Start.EMPTY, "setWeight 0 0");
        bounds(8, Start.ONE_WORD, "setWeight 1 0");
        bounds(8, Start.ONE_WORD, "setWeight -1 0");
        bounds(8, Start.ONE_WORD, "setWeight 1 100");
        bounds(8, Start.ONE_WORD, "setWeight 1 -1");
        argument(8, Start.ONE_WORD, "setWeight 0 100");
        argument(8, Start.ONE_WORD, "setWeight 0 -1");
        bounds(8, Start.FULL_WORDS, "setWeight 30 100");
    }

    private static void fixing() {
        Start[] starts = {Start.EMPTY, Start.NO_FILL, Start.BUSY};
        for (Start start : starts) {
            bounds(11, start, "fix 9 0");
            bounds(11, start, "fix 9 -1");
            bounds(11, start, "fix -1 0");
            bounds(11, start, "fix 0 9");
            bounds(11, start, "fix 0 -2");
            bounds(11, start, "fix 9 9");
        }
    }

    private static void noFill() {
        Start[] starts = {Start.EMPTY, Start.NO_FILL};
        for (Start start : starts) {
            refusals.due(15, start, "fillAt 0", Calls.ELEMENT);
            refusals.due(15, start, "fillAt 8", Calls.ELEMENT);
            bounds(15, start, "fillAt -1");
            bounds(15, start, "fillAt 9");
        }
    }

    private static void clues() {
        bounds(16, Start.EMPTY, "clue 0");
        state(16, Start.FULL_CLUES, "clue 0");
        bounds(16, Start.FULL_CLUES, "clue 1");
        bounds(16, Start.FULL_CLUES, "clue -1");
        state(17, Start.FULL_CLUES, "edit 2 0");
        state(17, Start.FULL_CLUES, "edit 2 1");
        state(17, Start.FULL_CLUES, "edit 59 0");
        state(17, Start.FULL_CLUES, "edit 59 1");
        state(17, Start.BUSY, "edit 0 0");
        bounds(17, Start.FULL_CLUES, "edit 60 0");
        bounds(17, Start.FULL_CLUES, "edit -1 1");
    }

    private static void hours() {
        state(19, Start.TOO_LATE_FOR_MOST, "pass 2000");
        state(19, Start.LAST_HOUR, "pass 1");
        state(19, Start.LAST_HOUR, "pass 2000");
        argument(19, Start.LAST_HOUR, "pass 0");
        argument(19, Start.LAST_HOUR, "pass -1");
        argument(19, Start.LAST_HOUR, "pass 2001");
        argument(19, Start.LAST_HOUR, "pass -30000");
    }

    private static void publishing() {
        state(21, Start.EMPTY, "publish");
        state(21, Start.ONE_PUZZLE, "publish");
        state(21, Start.FULL_PUZZLES, "publish");
        state(21, Start.NO_FILL, "publish");
        state(21, Start.ONE_WORD, "publish");
        state(21, Start.FIVE_READY, "publish");
        state(21, Start.BUSY, "publish");
    }

    private static void solvers() {
        state(23, Start.FULL_SOLVERS, "addSolver 0 0");
        state(23, Start.FULL_SOLVERS, "addSolver -12 1000");
        argument(23, Start.FULL_SOLVERS, "addSolver -13 0");
        argument(23, Start.FULL_SOLVERS, "addSolver 15 0");
        argument(23, Start.FULL_SOLVERS, "addSolver 0 -1");
        argument(23, Start.FULL_SOLVERS, "addSolver 0 1001");
        argument(23, Start.EMPTY, "addSolver 15 1001");
    }

    /** In the house the cell 4 of the puzzle 0 was helped, the cell 3 entered, the cells 0 to 2 are open. */
    private static void entering() {
        for (int letter = 0; letter <= 8; letter++) {
            state(24, Start.BUSY, "enter 0 0 4 " + letter);
            state(24, Start.BUSY, "enter 0 0 3 " + letter);
            state(24, Start.BUSY, "enter 0 0 0 " + letter);
            state(24, Start.BUSY, "enter 0 0 1 " + letter);
            state(24, Start.BUSY, "enter 1 0 2 " + letter);
        }
        String[] cells = {"0 0 4", "0 0 3", "0 0 0", "0 0 1"};
        for (String cell : cells) {
            bounds(24, Start.BUSY, "enter " + cell + " 9");
            bounds(24, Start.BUSY, "enter " + cell + " -1");
        }
        bounds(24, Start.BUSY, "enter 3 0 0 0");
        bounds(24, Start.BUSY, "enter 0 2 0 0");
        bounds(24, Start.BUSY, "enter 3 2 9 9");
    }

    private static void helping() {
        String[] cells = {"0 0 4", "0 0 3", "0 0 0", "0 0 1", "1 0 2", "2 0 8"};
        for (String cell : cells) {
            state(25, Start.BUSY, "help " + cell);
        }
        state(25, Start.BUSY, "help 1 1 0");
        state(25, Start.BUSY, "help 1 1 8");
        state(25, Start.ONE_PUZZLE, "help 0 0 0");
        state(25, Start.FULL_SOLVERS, "help 0 0 8");
        bounds(25, Start.BUSY, "help 1 1 9");
        bounds(25, Start.BUSY, "help 2 0 -1");
        bounds(25, Start.BUSY, "help 1 2 0");
        bounds(25, Start.FULL_SOLVERS, "help 0 1 0");
        bounds(25, Start.FULL_SOLVERS, "help 6 0 0");
    }

    private static void judging() {
        state(26, Start.BUSY, "judge 0 0");
        bounds(26, Start.BUSY, "judge 0 6");
        bounds(26, Start.BUSY, "judge 2 0");
        bounds(26, Start.EMPTY, "judge 0 0");
        bounds(26, Start.EMPTY, "judge 0 6");
    }
}
