import java.util.Random;

/** Long runs of calls, the same each time, on a Clueyard and on the model; every answer must be the same. */
public final class ModelTest {
    private static final int RUNS = 400;
    private static final int CALLS = 512;

    private static final java.util.List<Integer> NEVER_THROW = java.util.List.of(2, 3, 7, 8, 10, 11, 12, 18, 30);

    private static final Check check = new Check();
    private static final long[] answered = new long[32];
    private static final long[] thrown = new long[32];

    private final Random random;
    private final Clueyard house = new Clueyard();
    private final Model model = new Model();
    private final int letters;
    private int calls;

    private ModelTest(int run) {
        random = new Random(run);
        letters = 1 + random.nextInt(3);
    }

    public static void main(String[] args) {
        for (int run = 0; run < RUNS; run++) {
            new ModelTest(run).play();
        }
        for (int kind = 0; kind < 31; kind++) {
            check.holds("calls of " + Calls.NAMES[kind] + " were answered", answered[kind] > 0);
            check.holds("calls of " + Calls.NAMES[kind] + " threw", thrown[kind] > 0 || NEVER_THROW.contains(kind));
        }
        check.end();
    }

    private void play() {
        int wordsWanted = 1 + random.nextInt(8);
        for (int i = 0; i < 3 * wordsWanted && model.words.size() < wordsWanted; i++) {
            addRandomWord();
        }
        int readyWanted = 6 + random.nextInt(20);
        for (int i = 0; i < readyWanted && !model.words.isEmpty(); i++) {
            call(14, bestWord(), 0, 0, 0);
            int clue = model.clueWords.size() - 1;
            call(15, clue, 1, 0, 0);
            call(15, clue, 1, 0, 0);
        }
        while (calls < CALLS) {
            step();
        }
    }

    private void addRandomWord() {
        call(3, 0, 0, 0, 0);
        for (int i = 0; i < 3; i++) {
            call(random.nextInt(2), someLetter(), 0, 0, 0);
        }
        call(5, random.nextInt(100), 0, 0, 0);
    }

    private int someLetter() {
        int letter = random.nextInt(letters);
        return letter == 1 ? 8 : letter;
    }

    private int bestWord() {
        if (random.nextInt(3) == 0 || model.fillWeight() == -1) {
            return random.nextInt(model.words.size());
        }
        String text = "";
        int entry = random.nextInt(6);
        for (int i = 0; i < 3; i++) {
            text += Model.LETTERS[model.fillAt(entry < 3 ? 3 * entry + i : entry - 3 + 3 * i)];
        }
        return model.words.indexOf(text);
    }

    /** Mostly calls that can be answered, sometimes any call with any numbers. */
    private void step() {
        int puzzle = model.puzzles.isEmpty() ? 0 : random.nextInt(model.puzzles.size());
        int solver = model.solvers.isEmpty() ? 0 : random.nextInt(model.solvers.size());
        int choice = random.nextInt(100);
        if (choice < 40) {
            enterSome(solver, puzzle);
        } else if (choice < 47) {
            call(23, solver, puzzle, random.nextInt(9), 0);
        } else if (choice < 50) {
            call(24, puzzle, random.nextInt(6), 0, 0);
        } else if (choice < 56) {
            call(17, 1 + random.nextInt(random.nextInt(20) == 0 ? 2000 : 30), 0, 0, 0);
        } else if (choice < 60) {
            call(19, 0, 0, 0, 0);
        } else if (choice < 63) {
            call(21, random.nextInt(27) - 12, random.nextInt(200), 0, 0);
        } else if (choice < 85) {
            ask(solver, puzzle);
        } else {
            call(random.nextInt(31), odd(12), odd(12), odd(10), odd(10));
        }
    }

    private void enterSome(int solver, int puzzle) {
        for (int i = random.nextInt(9); i >= 0; i--) {
            int cell = random.nextInt(9);
            boolean isTrue = !model.puzzles.isEmpty() && random.nextInt(8) > 0;
            int letter = isTrue ? java.util.Arrays.asList(Model.LETTERS).indexOf(model.puzzles.get(puzzle).cells[cell])
                    : random.nextInt(9);
            call(22, solver, puzzle, cell, letter);
        }
    }

    private void ask(int solver, int puzzle) {
        int[] kinds = {25, 26, 27, 28, 29, 30, 16, 20, 10, 13, 18, 12};
        int kind = kinds[random.nextInt(kinds.length)];
        switch (kind) {
            case 25 -> call(kind, solver, puzzle, 0, 0);
            case 26 -> call(kind, puzzle, 0, 0, 0);
            case 27, 28, 29 -> call(kind, solver, 0, 0, 0);
            case 30 -> call(kind, random.nextInt(7), 0, 0, 0);
            case 20 -> call(kind, puzzle, random.nextInt(6), 0, 0);
            default -> call(kind, random.nextInt(9), 0, 0, 0);
        }
    }

    private int odd(int count) {
        int choice = random.nextInt(60);
        if (choice == 0) {
            return random.nextBoolean() ? Integer.MAX_VALUE : Integer.MIN_VALUE;
        }
        return choice < 4 ? random.nextInt(4000) - 1000 : random.nextInt(count) - 1;
    }

    private void call(int kind, int a, int b, int c, int d) {
        if (calls >= CALLS) {
            return;
        }
        calls++;
        String got = Calls.answer(house, Calls.NAMES[kind], a, b, c, d);
        String want = due(kind, a, b, c, d);
        if (want.endsWith("Exception")) {
            thrown[kind]++;
        } else {
            answered[kind]++;
        }
        check.holds("call " + calls + ", " + Calls.NAMES[kind] + "(" + a + ", " + b + ", " + c + ", " + d + ") answers "
                + want + " and not " + got, got.equals(want));
    }

    private String due(int kind, int a, int b, int c, int d) {
        try {
            return "" + ofModel(kind, a, b, c, d);
        } catch (RuntimeException e) {
            return e.getClass().getSimpleName();
        }
    }

    private int ofModel(int kind, int a, int b, int c, int d) {
        switch (kind) {
            case 0: return model.spell(a);
            case 1: return model.insert(a);
            case 2: return model.turn();
            case 3: return model.clearSpelled();
            case 4: return model.charAt(a);
            case 5: return model.addWord(a);
            case 6: return model.setWeight(a, b);
            case 7: return model.wordAt(a);
            case 8: return model.beginning();
            case 9: return model.fix(a, b);
            case 10: return model.fillWeight();
            case 11: return model.fillWeight();
            case 12: return model.fills();
            case 13: return model.fillAt(a);
            case 14: return model.clue(a);
            case 15: return model.edit(a, (b & 1) == 1);
            case 16: return model.lastUsed(a);
            case 17: return model.pass(a);
            case 18: return model.now();
            case 19: return model.publish();
            case 20: return model.clueOf(a, b);
            case 21: return model.addSolver(a, b);
            case 22: return model.enter(a, b, c, d);
            case 23: return model.help(a, b, c);
            case 24: return model.judge(a, b);
            case 25: return model.solvedAt(a, b);
            case 26: return model.open(a);
            case 27: return model.coins(a);
            case 28: return model.streak(a);
            case 29: return model.streak(a);
            default: return model.solverAt(a);
        }
    }
}
