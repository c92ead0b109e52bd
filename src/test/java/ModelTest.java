import java.util.Random;

/** Long runs of calls, the same each time, on a Clueyard and on the model; every answer must be the same. */
public final class ModelTest {
    /**
     * Any calls; puzzles that are solved day by day; clues that are used again when their year is over;
     * fills of many words, several of them with the same weight.
     */
    private enum Kind {
        MIXED(300), DAYS(300), YEARS(300), FILLS(60);

        final int runs;

        Kind(int runs) {
            this.runs = runs;
        }
    }

    private static final int CALLS = 512;
    private static final int[] LEAPS = {1, 2, 363, 364, 365, 366};

    private static final java.util.List<Integer> NEVER_THROW = java.util.List.of(2, 3, 7, 8, 10, 11, 12, 18, 30);

    private static final Check check = new Check();
    private static final long[] answered = new long[32];
    private static final long[] thrown = new long[32];

    private static int usedAgain;
    private static int longestStreak;
    private static int mostMended;

    private final Kind kind;
    private final Random random;
    private final Clueyard house = new Clueyard();
    private final Model model = new Model();
    private final int letters;
    private int calls;

    private ModelTest(Kind kind, int run) {
        this.kind = kind;
        random = new Random(run);
        letters = kind == Kind.FILLS ? 2 : 1 + random.nextInt(3);
    }

    public static void main(String[] args) {
        for (Kind kind : Kind.values()) {
            for (int run = 0; run < kind.runs; run++) {
                new ModelTest(kind, run).play();
            }
        }
        for (int call = 0; call < 31; call++) {
            check.holds("calls of " + Calls.NAMES[call] + " were answered", answered[call] > 0);
            check.holds("calls of " + Calls.NAMES[call] + " threw", thrown[call] > 0 || NEVER_THROW.contains(call));
        }
        check.holds("clues were used again", usedAgain > 0);
        check.holds("there were streaks of many days", longestStreak > 4);
        check.holds("the streaks of several solvers were mended at once", mostMended > 1);
        check.end();
    }

    private void play() {
        int wordsWanted = 1 + random.nextInt(8);
        for (int i = 0; i < 3 * wordsWanted && model.words.size() < wordsWanted; i++) {
            addRandomWord();
        }
        if (kind == Kind.FILLS) {
            playWithFills();
        } else {
            playWithPuzzles();
        }
    }

    private void playWithFills() {
        while (calls < CALLS) {
            int choice = random.nextInt(6);
            if (choice < 2 && model.words.size() < 14) {
                addRandomWord();
            } else if (choice < 4) {
                call(6, random.nextInt(model.words.size()), random.nextInt(3), 0, 0);
            } else {
                call(9, random.nextInt(9), random.nextInt(3) == 0 ? someLetter() : Clueyard.NONE, 0, 0);
            }
            for (int call = 10; call <= 12; call++) {
                call(call, 0, 0, 0, 0);
            }
            for (int cell = 0; cell < 9; cell++) {
                call(13, cell, 0, 0, 0);
            }
            call(7, random.nextInt(14), 0, 0, 0);
        }
    }

    private void playWithPuzzles() {
        int readyWanted = kind == Kind.DAYS ? 30 + random.nextInt(20) : 6 + random.nextInt(20);
        for (int i = 0; i < readyWanted && !model.words.isEmpty(); i++) {
            call(14, bestWord(), 0, 0, 0);
            int clue = model.clueWords.size() - 1;
            call(15, clue, 1, 0, 0);
            call(15, clue, 1, 0, 0);
        }
        while (calls < CALLS) {
            if (kind == Kind.MIXED || random.nextInt(3) == 0) {
                step();
            } else if (kind == Kind.DAYS) {
                oneDay();
            } else {
                oneLeap();
            }
        }
    }

    private void oneDay() {
        call(19, 0, 0, 0, 0);
        for (int s = model.solvers.size() - 1; s < 5 && random.nextInt(3) == 0; s++) {
            call(21, random.nextInt(27) - 12, random.nextInt(600), 0, 0);
        }
        int puzzle = model.puzzles.size() - 1 - random.nextInt(2);
        for (int s = 0; s < model.solvers.size() && puzzle >= 0; s++) {
            enterRow(s, puzzle, 0);
            enterRow(s, puzzle, 1);
            enterRow(s, puzzle, random.nextInt(5) == 0 ? 0 : 2);
        }
        call(17, 1 + random.nextInt(34), 0, 0, 0);
        call(24, random.nextInt(1 + model.puzzles.size()), random.nextInt(6), 0, 0);
        for (int s = 0; s < model.solvers.size(); s++) {
            call(28 + random.nextInt(2), s, 0, 0, 0);
        }
        call(30, random.nextInt(6), 0, 0, 0);
    }

    private void enterRow(int solver, int puzzle, int row) {
        for (int cell = 3 * row; cell < 3 * row + 3; cell++) {
            if (random.nextInt(solver == 0 ? 2 : 12) == 0) {
                call(23, solver, puzzle, cell, 0);
            } else {
                call(22, solver, puzzle, cell, model.letter(puzzle, cell));
            }
        }
    }

    /** To any hour of a day that is near the first one, or about a year away from it. */
    private void oneLeap() {
        int hours = 24 * LEAPS[random.nextInt(LEAPS.length)] - model.now() % 24 + random.nextInt(24);
        while (hours > 0) {
            call(17, Math.min(hours, 2000), 0, 0, 0);
            hours -= 2000;
        }
        call(19, 0, 0, 0, 0);
        int puzzle = model.puzzles.size() - 1;
        for (int entry = 0; entry < 6; entry++) {
            call(20, puzzle, entry, 0, 0);
        }
        call(16, random.nextInt(1 + model.clueWords.size()), 0, 0, 0);
    }

    private void addRandomWord() {
        call(3, 0, 0, 0, 0);
        for (int i = 0; i < 3; i++) {
            call(random.nextInt(2), someLetter(), 0, 0, 0);
        }
        call(5, random.nextInt(kind == Kind.FILLS ? 3 : 100), 0, 0, 0);
    }

    private int someLetter() {
        int letter = random.nextInt(kind == Kind.FILLS && random.nextInt(12) == 0 ? 3 : letters);
        return letter == 1 ? 8 : letter;
    }

    private int bestWord() {
        if (random.nextInt(3) == 0 || model.fillWeight() == -1) {
            return random.nextInt(model.words.size());
        }
        String text = "";
        int entry = random.nextInt(6);
        for (int i = 0; i < 3; i++) {
            text += Model.LETTERS[model.fillAt(entry < 3 ? 3 * entry + i : entry - 3 + 3 * i)];
        }
        return model.words.indexOf(text);
    }

    /** Mostly calls that can be answered, sometimes any call with any numbers. */
    private void step() {
        int puzzle = model.puzzles.isEmpty() ? 0 : random.nextInt(model.puzzles.size());
        int solver = model.solvers.isEmpty() ? 0 : random.nextInt(model.solvers.size());
        int choice = random.nextInt(100);
        if (choice < 40) {
            enterSome(solver, puzzle);
        } else if (choice < 47) {
            call(23, solver, puzzle, random.nextInt(9), 0);
        } else if (choice < 50) {
            call(24, puzzle, random.nextInt(6), 0, 0);
        } else if (choice < 56) {
            call(17, 1 + random.nextInt(random.nextInt(20) == 0 ? 2000 : 30), 0, 0, 0);
        } else if (choice < 60) {
            call(19, 0, 0, 0, 0);
        } else if (choice < 63) {
            call(21, random.nextInt(27) - 12, random.nextInt(200), 0, 0);
        } else if (choice < 85) {
            ask(solver, puzzle);
        } else {
            call(random.nextInt(31), odd(12), odd(12), odd(10), odd(10));
        }
    }

    private void enterSome(int solver, int puzzle) {
        for (int i = random.nextInt(9); i >= 0; i--) {
            int cell = random.nextInt(9);
            boolean isTrue = !model.puzzles.isEmpty() && random.nextInt(8) > 0;
            int letter = isTrue ? model.letter(puzzle, cell) : random.nextInt(9);
            call(22, solver, puzzle, cell, letter);
        }
    }

    private void ask(int solver, int puzzle) {
        int[] calls = {25, 26, 27, 28, 29, 30, 16, 20, 10, 13, 18, 12};
        int call = calls[random.nextInt(calls.length)];
        switch (call) {
            case 25 -> call(call, solver, puzzle, 0, 0);
            case 26 -> call(call, puzzle, 0, 0, 0);
            case 27, 28, 29 -> call(call, solver, 0, 0, 0);
            case 30 -> call(call, random.nextInt(7), 0, 0, 0);
            case 20 -> call(call, puzzle, random.nextInt(6), 0, 0);
            default -> call(call, random.nextInt(9), 0, 0, 0);
        }
    }

    private int odd(int count) {
        int choice = random.nextInt(60);
        if (choice == 0) {
            return random.nextBoolean() ? Integer.MAX_VALUE : Integer.MIN_VALUE;
        }
        return choice < 4 ? random.nextInt(4000) - 1000 : random.nextInt(count) - 1;
    }

    private void call(int call, int a, int b, int c, int d) {
        if (calls >= CALLS) {
            return;
        }
        calls++;
        String got = Calls.answer(house, Calls.NAMES[call], a, b, c, d);
        String want = due(call, a, b, c, d);
        if (want.endsWith("Exception")) {
            thrown[call]++;
        } else {
            answered[call]++;
            reached(call, Integer.parseInt(want));
        }
        check.holds("call " + calls + ", " + Calls.NAMES[call] + "(" + a + ", " + b + ", " + c + ", " + d + ") answers "
                + want + " and not " + got, got.equals(want));
    }

    /** Runs that come nowhere would find nothing. */
    private void reached(int call, int answer) {
        if (call == 19 && model.hasClueUsedAgain(answer)) {
            usedAgain++;
        } else if (call == 24) {
            mostMended = Math.max(mostMended, answer);
        } else if (call == 28) {
            longestStreak = Math.max(longestStreak, answer);
        }
    }

    private String due(int call, int a, int b, int c, int d) {
        try {
            return "" + ofModel(call, a, b, c, d);
        } catch (RuntimeException e) {
            return e.getClass().getSimpleName();
        }
    }

    private int ofModel(int call, int a, int b, int c, int d) {
        switch (call) {
            case 0: return model.spell(a);
            case 1: return model.insert(a);
            case 2: return model.turn();
            case 3: return model.clearSpelled();
            case 4: return model.charAt(a);
            case 5: return model.addWord(a);
            case 6: return model.setWeight(a, b);
            case 7: return model.wordAt(a);
            case 8: return model.beginning();
            case 9: return model.fix(a, b);
            case 10: return model.fillWeight();
            case 11: return model.fillWeight();
            case 12: return model.fills();
            case 13: return model.fillAt(a);
            case 14: return model.clue(a);
            case 15: return model.edit(a, (b & 1) == 1);
            case 16: return model.lastUsed(a);
            case 17: return model.pass(a);
            case 18: return model.now();
            case 19: return model.publish();
            case 20: return model.clueOf(a, b);
            case 21: return model.addSolver(a, b);
            case 22: return model.enter(a, b, c, d);
            case 23: return model.help(a, b, c);
            case 24: return model.judge(a, b);
            case 25: return model.solvedAt(a, b);
            case 26: return model.open(a);
            case 27: return model.coins(a);
            case 28: return model.streak(a);
            case 29: return model.streak(a);
            default: return model.solverAt(a);
        }
    }
}
