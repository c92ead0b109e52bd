import java.util.function.Supplier;

/** Houses that tests begin with: empty, full in one way each, and one in which much has happened. */
enum Start {
    EMPTY(Clueyard::new),
    TWO_LETTERS(Start::withTwoLetters),
    FULL_TEXT(Start::withFullText),
    ONE_WORD(Start::withOneWord),
    FULL_WORDS(Start::withFullWords),
    SIX_WORDS(Start::withSixWords),
    NO_FILL(Start::withoutFill),
    FULL_CLUES(Start::withFullClues),
    FIVE_READY(Start::withFiveReady),
    ONE_PUZZLE(Start::withOnePuzzle),
    FULL_PUZZLES(Start::withFullPuzzles),
    FULL_SOLVERS(Start::withFullSolvers),
    BUSY(Start::busy),
    LAST_HOURS(() -> later(28000)),
    TOO_LATE_FOR_MOST(() -> later(28001)),
    LAST_HOUR(() -> later(30000));

    private final Supplier<Clueyard> maker;

    Start(Supplier<Clueyard> maker) {
        this.maker = maker;
    }

    Clueyard make() {
        return maker.get();
    }

    private static Clueyard withTwoLetters() {
        Clueyard x = new Clueyard();
        House.spelled(x, "ai");
        return x;
    }

    /** Five chars, and no words. */
    private static Clueyard withFullText() {
        Clueyard x = new Clueyard();
        House.spelled(x, "iai");
        return x;
    }

    /** The word is still the spelled text. */
    private static Clueyard withOneWord() {
        Clueyard x = new Clueyard();
        House.word(x, "aaa", 1);
        return x;
    }

    /** The weight of each word is its number, the last one is iaa, and the text is no word. */
    private static Clueyard withFullWords() {
        Clueyard x = new Clueyard();
        for (int w = 0; w < 29; w++) {
            House.word(x, "" + (char) ('a' + w / 9) + (char) ('a' + w % 9) + "a", w);
        }
        House.word(x, "iaa", 29);
        House.spelled(x, "iii");
        return x;
    }

    /** The entry e is the word e, and each word has one READY clue, the word w the clue 5 - w. */
    private static Clueyard withSixWords() {
        Clueyard x = new Clueyard();
        String[] texts = {"abc", "def", "gha", "adg", "beh", "cfa"};
        for (int w = 0; w < 6; w++) {
            House.word(x, texts[w], w);
        }
        x.fix(1, 1);
        for (int w = 5; w >= 0; w--) {
            House.readyClue(x, w);
        }
        return x;
    }

    /** There are words and READY clues enough, but two fixed letters that no word has. */
    private static Clueyard withoutFill() {
        Clueyard x = new Clueyard();
        House.word(x, "aaa", 1);
        House.readyClues(x, 0, 7);
        x.fix(0, 8);
        x.fix(8, 8);
        return x;
    }

    /** The stage of the clue c is c % 3. */
    private static Clueyard withFullClues() {
        Clueyard x = new Clueyard();
        House.word(x, "aaa", 1);
        for (int c = 0; c < 60; c++) {
            x.clue(0);
            for (int i = 0; i < c % 3; i++) {
                x.edit(c, true);
            }
        }
        return x;
    }

    /** A sixth clue lacks one editor. */
    private static Clueyard withFiveReady() {
        Clueyard x = new Clueyard();
        House.word(x, "aaa", 1);
        House.readyClues(x, 0, 5);
        x.clue(0);
        x.edit(5, true);
        return x;
    }

    /** There are READY clues for a second one, but it is still the same day; one solver, 4 coins. */
    private static Clueyard withOnePuzzle() {
        Clueyard x = House.withPuzzle();
        House.readyClues(x, 0, 6);
        x.addSolver(0, 4);
        x.pass(23);
        return x;
    }

    /** It is a day on which clues could be used again; one solver, 1000 coins. */
    private static Clueyard withFullPuzzles() {
        Clueyard x = House.withMostPuzzles();
        House.until(x, 24 * 800);
        x.addSolver(-5, 1000);
        return x;
    }

    /** The solver s has 10 times s coins; one puzzle. */
    private static Clueyard withFullSolvers() {
        Clueyard x = House.withPuzzle();
        for (int s = 0; s < 6; s++) {
            x.addSolver(s, 10 * s);
        }
        return x;
    }

    /**
     * The puzzles are abi bac icb. The solver 0 has helped and open cells, the solver 1 has 7 coins and
     * one helped cell, the solver 2 has solved both and has no coins. No clue is left for a third.
     */
    private static Clueyard busy() {
        Clueyard x = new Clueyard();
        String[] texts = {"abi", "bac", "icb"};
        for (int w = 0; w < 3; w++) {
            House.word(x, texts[w], 10 * w + 10);
            House.readyClues(x, w, 4);
        }
        House.word(x, "aaa", 19);
        x.clue(3);
        x.clue(3);
        x.edit(13, true);
        x.addSolver(-12, 100);
        x.addSolver(14, 12);
        x.addSolver(0, 0);
        x.pass(5);
        x.publish();
        x.pass(24);
        x.publish();
        solve(x, 2, 0);
        x.help(0, 0, 0);
        x.help(0, 0, 4);
        x.enter(0, 0, 3, 1);
        x.help(1, 1, 8);
        x.judge(0, 0);
        x.pass(24);
        solve(x, 2, 1);
        House.spelled(x, "ib");
        x.fix(4, 0);
        return x;
    }

    private static void solve(Clueyard x, int solver, int puzzle) {
        int[] letters = {0, 1, 8, 1, 0, 2, 8, 2, 1};
        for (int cell = 0; cell < 9; cell++) {
            x.enter(solver, puzzle, cell, letters[cell]);
        }
    }

    private static Clueyard later(int hour) {
        Clueyard x = House.withPuzzle();
        x.addSolver(14, 10);
        x.addSolver(-12, 10);
        House.until(x, hour);
        return x;
    }
}
