/** The calls of the face by their names, so that tests can go through them in tables. */
final class Calls {
    static final String BOUNDS = "IndexOutOfBoundsException";
    static final String ARGUMENT = "IllegalArgumentException";
    static final String STATE = "IllegalStateException";
    static final String ELEMENT = "NoSuchElementException";

    static final String[] NAMES = {
        "spell", "insert", "turn", "clearSpelled", "charAt",
        "addWord", "setWeight", "wordAt", "beginning",
        "fix", "fillWeight", "fillWeightByAll", "fills", "fillAt",
        "clue", "edit", "lastUsed", "pass", "now", "publish", "clueOf",
        "addSolver", "enter", "help", "judge", "solvedAt", "open", "coins", "streak", "streakAnew", "solverAt",
    };

    private Calls() {
    }

    /** The answer of a call that is written as its name and its numbers, with spaces between. */
    static String answer(Clueyard x, String call) {
        String[] parts = call.split(" ");
        int[] numbers = new int[4];
        for (int i = 1; i < parts.length; i++) {
            numbers[i - 1] = Integer.parseInt(parts[i]);
        }
        return answer(x, parts[0], numbers);
    }

    /** The answer as a number, or the name of what was thrown; there must be four numbers. */
    static String answer(Clueyard x, String name, int... numbers) {
        try {
            return "" + number(x, name, numbers);
        } catch (RuntimeException e) {
            return e.getClass().getSimpleName();
        }
    }

    private static int number(Clueyard x, String name, int[] n) {
        return switch (name) {
            case "spell" -> x.spell(n[0]);
            case "insert" -> x.insert(n[0]);
            case "turn" -> x.turn();
            case "clearSpelled" -> x.clearSpelled();
            case "charAt" -> x.charAt(n[0]);
            case "addWord" -> x.addWord(n[0]);
            case "setWeight" -> x.setWeight(n[0], n[1]);
            case "wordAt" -> x.wordAt(n[0]);
            case "beginning" -> x.beginning();
            case "fix" -> x.fix(n[0], n[1]);
            case "fillWeight" -> x.fillWeight();
            case "fillWeightByAll" -> x.fillWeightByAll();
            case "fills" -> x.fills();
            case "fillAt" -> x.fillAt(n[0]);
            case "clue" -> x.clue(n[0]);
            case "edit" -> x.edit(n[0], (n[1] & 1) == 1);
            case "lastUsed" -> x.lastUsed(n[0]);
            case "pass" -> x.pass(n[0]);
            case "now" -> x.now();
            case "publish" -> x.publish();
            case "clueOf" -> x.clueOf(n[0], n[1]);
            case "addSolver" -> x.addSolver(n[0], n[1]);
            case "enter" -> x.enter(n[0], n[1], n[2], n[3]) ? 1 : 0;
            case "help" -> x.help(n[0], n[1], n[2]);
            case "judge" -> x.judge(n[0], n[1]);
            case "solvedAt" -> x.solvedAt(n[0], n[1]);
            case "open" -> x.open(n[0]);
            case "coins" -> x.coins(n[0]);
            case "streak" -> x.streak(n[0]);
            case "streakAnew" -> x.streakAnew(n[0]);
            case "solverAt" -> x.solverAt(n[0]);
            default -> throw new AssertionError("there is no call " + name);
        };
    }
}
