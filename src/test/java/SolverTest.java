/** Promises 23 to 29: solvers, letters, help, judging and solved puzzles. */
public final class SolverTest {
    private static final Check check = new Check();

    public static void main(String[] args) {
        adding();
        entering();
        helping();
        helpCosts();
        helpThatCannotBePaid();
        judging();
        payingBack();
        paidBackOnce();
        judgingLengthens();
        judgingOpensAtOnce();
        solving();
        solvingByOpenCells();
        lastOfAll();
        wrongNumbers();
        check.end();
    }

    private static void adding() {
        Clueyard x = new Clueyard();
        check.argument("23: addSolver(-13, 0)", () -> x.addSolver(-13, 0));
        check.argument("23: addSolver(15, 0)", () -> x.addSolver(15, 0));
        check.argument("23: addSolver(0, -1)", () -> x.addSolver(0, -1));
        check.argument("23: addSolver(0, 1001)", () -> x.addSolver(0, 1001));
        check.due("23: addSolver(-12, 0)", x.addSolver(-12, 0), 0);
        check.due("23: addSolver(14, 1000)", x.addSolver(14, 1000), 1);
        for (int s = 2; s < 6; s++) {
            check.due("23: addSolver(0, " + s + ")", x.addSolver(0, s), s);
        }
        check.state("23: addSolver(0, 0), one too many", () -> x.addSolver(0, 0));
        check.argument("23: addSolver(15, 0), one too many", () -> x.addSolver(15, 0));
        check.argument("23: addSolver(0, -1), one too many", () -> x.addSolver(0, -1));
        check.due("29: coins(0)", x.coins(0), 0);
        check.due("29: coins(1)", x.coins(1), 1000);
        check.due("29: coins(5)", x.coins(5), 5);
        check.bounds("29: coins(6)", () -> x.coins(6));
        check.bounds("29: coins(-1)", () -> x.coins(-1));
    }

    private static void entering() {
        Clueyard x = House.withPuzzle();
        x.addSolver(0, 0);
        x.addSolver(0, 0);
        check.due("24: enter(0, 0, 0, 8)", x.enter(0, 0, 0, 8), false);
        check.due("24: enter(0, 0, 0, 1)", x.enter(0, 0, 0, 1), false);
        check.due("24: enter(0, 0, 0, 0)", x.enter(0, 0, 0, 0), true);
        check.state("24: enter(0, 0, 0, 0) in a right cell", () -> x.enter(0, 0, 0, 0));
        check.state("24: enter(0, 0, 0, 1) in a right cell", () -> x.enter(0, 0, 0, 1));
        check.bounds("24: enter(0, 0, 0, 9) in a right cell", () -> x.enter(0, 0, 0, 9));
        check.due("24: enter(1, 0, 0, 0) of another solver", x.enter(1, 0, 0, 0), true);
        x.judge(0, 1);
        check.state("24: enter(0, 0, 4, 0) in an open cell", () -> x.enter(0, 0, 4, 0));
        check.state("24: enter(1, 0, 3, 1) in an open cell", () -> x.enter(1, 0, 3, 1));
        check.due("24: enter(1, 0, 8, 0)", x.enter(1, 0, 8, 0), true);
        check.due("29: coins(0)", x.coins(0), 0);
    }

    private static void helping() {
        Clueyard x = new Clueyard();
        House.word(x, "abi", 1);
        House.word(x, "bac", 1);
        House.word(x, "icb", 1);
        for (int w = 0; w < 3; w++) {
            House.readyClues(x, w, 2);
        }
        x.publish();
        x.addSolver(0, 1000);
        int[] due = {0, 1, 8, 1, 0, 2, 8, 2, 1};
        for (int cell = 0; cell < 9; cell++) {
            check.due("25: help(0, 0, " + cell + ")", x.help(0, 0, cell), due[cell]);
        }
        check.due("29: coins(0) then", x.coins(0), 1000 - 35 - 6 * 40);
        check.state("25: help(0, 0, 4) in a right cell", () -> x.help(0, 0, 4));
        check.due("27: solvedAt(0, 0)", x.solvedAt(0, 0), 0);
        check.due("30: streak(0)", x.streak(0), 1);
    }

    private static void helpCosts() {
        Clueyard x = House.withPuzzles(2, 0);
        x.addSolver(0, 200);
        x.addSolver(0, 200);
        int[] left = {195, 185, 165, 125, 85};
        for (int cell = 0; cell < 5; cell++) {
            x.help(0, 0, cell);
            check.due("25: coins(0) after help " + cell, x.coins(0), left[cell]);
        }
        x.help(0, 1, 0);
        check.due("25: coins(0) after help in another puzzle", x.coins(0), 80);
        x.help(1, 0, 0);
        check.due("25: coins(1) after help of another solver", x.coins(1), 195);
        x.help(0, 1, 1);
        check.due("25: coins(0) after more help there", x.coins(0), 70);
        x.help(0, 0, 5);
        check.due("25: coins(0) after more help here", x.coins(0), 30);
    }

    private static void helpThatCannotBePaid() {
        Clueyard x = House.withPuzzle();
        x.addSolver(0, 4);
        x.addSolver(0, 5);
        x.addSolver(0, 14);
        check.state("25: help(0, 0, 0) for 4 coins", () -> x.help(0, 0, 0));
        check.due("29: coins(0)", x.coins(0), 4);
        check.due("24: enter(0, 0, 0, 0) behind it", x.enter(0, 0, 0, 0), true);
        check.due("25: help(1, 0, 0) for 5 coins", x.help(1, 0, 0), 0);
        check.due("29: coins(1)", x.coins(1), 0);
        check.state("24: enter(1, 0, 0, 0) where it was helped", () -> x.enter(1, 0, 0, 0));
        check.due("25: help(2, 0, 0) for 14 coins", x.help(2, 0, 0), 0);
        check.state("25: help(2, 0, 1) for 9 coins", () -> x.help(2, 0, 1));
        x.judge(0, 0);
        check.due("29: coins(2)", x.coins(2), 14);
        check.due("25: help(2, 0, 3) for 14 coins", x.help(2, 0, 3), 0);
        check.due("29: coins(2) then, also if an earlier one was paid back", x.coins(2), 4);
        check.state("25: help(2, 0, 1) in an open cell", () -> x.help(2, 0, 1));
    }

    private static void judging() {
        Clueyard x = House.withPuzzles(2, 0);
        int[] due = {7, 7 | 56, 511, 511, 511, 511};
        for (int e = 0; e < 6; e++) {
            int entry = e;
            check.due("26: judge(0, " + e + ")", x.judge(0, e), 0);
            check.due("28: open(0)", x.open(0), due[e]);
            check.state("26: judge(0, " + e + ") again", () -> x.judge(0, entry));
        }
        for (int e = 0; e < 6; e++) {
            int entry = e;
            check.state("26: judge(0, " + e + ") behind all", () -> x.judge(0, entry));
        }
        int[] columns = {73, 146, 292};
        check.due("28: open(1)", x.open(1), 0);
        int cells = 0;
        for (int c = 2; c >= 0; c--) {
            cells |= columns[c];
            check.due("26: judge(1, " + (3 + c) + ")", x.judge(1, 3 + c), 0);
            check.due("28: open(1)", x.open(1), cells);
        }
        check.bounds("26: judge(2, 0)", () -> x.judge(2, 0));
        check.bounds("26: judge(-1, 0)", () -> x.judge(-1, 0));
        check.bounds("26: judge(0, 6)", () -> x.judge(0, 6));
        check.bounds("26: judge(0, -1)", () -> x.judge(0, -1));
        check.bounds("28: open(2)", () -> x.open(2));
        check.bounds("28: open(-1)", () -> x.open(-1));
    }

    private static void payingBack() {
        Clueyard x = House.withPuzzles(2, 0);
        x.addSolver(0, 100);
        x.addSolver(0, 50);
        x.help(0, 0, 0);
        x.help(0, 0, 4);
        x.help(0, 0, 2);
        x.help(0, 1, 0);
        x.help(1, 0, 1);
        check.due("29: coins(0)", x.coins(0), 60);
        check.due("29: coins(1)", x.coins(1), 45);
        x.judge(0, 0);
        check.due("26: coins(0) with two cells paid back", x.coins(0), 85);
        check.due("26: coins(1) with one cell paid back", x.coins(1), 50);
        x.judge(0, 5);
        check.due("26: coins(0) with no more paid back", x.coins(0), 85);
        x.judge(0, 4);
        check.due("26: coins(0) with the last one paid back", x.coins(0), 95);
        x.judge(1, 0);
        check.due("26: coins(0) with the other puzzle's paid back", x.coins(0), 100);
    }

    private static void paidBackOnce() {
        Clueyard x = House.withPuzzle();
        x.addSolver(0, 10);
        x.help(0, 0, 4);
        check.due("29: coins(0)", x.coins(0), 5);
        x.judge(0, 1);
        x.judge(0, 4);
        check.due("29: coins(0) with the cell open by both entries", x.coins(0), 10);
    }

    private static void judgingLengthens() {
        Clueyard x = House.withPuzzle();
        for (int s = 0; s < 5; s++) {
            x.addSolver(0, 0);
        }
        House.enterCells(x, 0, 0, 0, 5);
        House.enterCells(x, 1, 0, 3, 8);
        House.enterCells(x, 2, 0, 0, 8);
        House.enterCells(x, 3, 0, 0, 4);
        check.due("26: judge(0, 2)", x.judge(0, 2), 1);
        check.due("27: solvedAt(0, 0)", x.solvedAt(0, 0), 0);
        check.due("27: solvedAt(1, 0)", x.solvedAt(1, 0), Clueyard.NONE);
        x.pass(24 * 2);
        check.due("26: judge(0, 1) two days later", x.judge(0, 1), 0);
        check.due("27: solvedAt(3, 0)", x.solvedAt(3, 0), 0);
        check.due("30: streak(3)", x.streak(3), 0);
        x.enter(4, 0, 0, 0);
        check.due("26: judge(0, 0)", x.judge(0, 0), 0);
        check.due("27: solvedAt(4, 0) in the hour of publishing", x.solvedAt(4, 0), 0);
        check.due("30: streak(4)", x.streak(4), 0);
    }

    /** The cells of an entry become open at once: a day between does not count. */
    private static void judgingOpensAtOnce() {
        Clueyard x = House.withPuzzle();
        x.addSolver(0, 0);
        House.enterCells(x, 0, 0, 3, 8);
        x.pass(24);
        House.enterCells(x, 0, 0, 1, 2);
        check.due("26: judge(0, 0)", x.judge(0, 0), 1);
        check.due("27: solvedAt(0, 0)", x.solvedAt(0, 0), 0);
        check.due("30: streak(0)", x.streak(0), 1);
        x.pass(24);
        check.due("30: streak(0) a day later", x.streak(0), 0);
    }

    private static void solving() {
        Clueyard x = House.withPuzzle();
        x.addSolver(0, 5);
        check.due("27: solvedAt(0, 0) at first", x.solvedAt(0, 0), Clueyard.NONE);
        House.enterCells(x, 0, 0, 6, 8);
        x.pass(7);
        House.enterCells(x, 0, 0, 0, 2);
        x.pass(30);
        House.enterCells(x, 0, 0, 3, 4);
        check.due("27: solvedAt(0, 0) but for a cell", x.solvedAt(0, 0), Clueyard.NONE);
        x.pass(1);
        x.help(0, 0, 5);
        check.due("27: solvedAt(0, 0)", x.solvedAt(0, 0), 38);
        x.pass(100);
        check.due("27: solvedAt(0, 0) later", x.solvedAt(0, 0), 38);
        x.judge(0, 5);
        check.due("27: solvedAt(0, 0) with the last cell open", x.solvedAt(0, 0), 37);
        check.due("29: coins(0) with it paid back", x.coins(0), 5);
        x.judge(0, 1);
        check.due("27: solvedAt(0, 0) with more open", x.solvedAt(0, 0), 7);
        x.judge(0, 0);
        check.due("27: solvedAt(0, 0) with the first row open", x.solvedAt(0, 0), 0);
    }

    private static void solvingByOpenCells() {
        Clueyard x = House.withPuzzles(2, 3);
        check.due("20: now()", x.now(), 27);
        x.addSolver(0, 0);
        x.addSolver(0, 0);
        x.pass(2);
        x.enter(0, 1, 4, 0);
        x.judge(1, 0);
        x.judge(1, 1);
        check.due("27: solvedAt(0, 1)", x.solvedAt(0, 1), Clueyard.NONE);
        check.due("26: judge(1, 2)", x.judge(1, 2), 1);
        check.due("27: solvedAt(0, 1) in the hour of publishing", x.solvedAt(0, 1), 27);
        check.due("27: solvedAt(1, 1) without a right cell", x.solvedAt(1, 1), Clueyard.NONE);
        check.due("27: solvedAt(0, 0) of the other puzzle", x.solvedAt(0, 0), Clueyard.NONE);
        x.judge(0, 0);
        x.judge(0, 1);
        House.enterCells(x, 1, 0, 6, 7);
        check.due("27: solvedAt(1, 0) but for a cell", x.solvedAt(1, 0), Clueyard.NONE);
        x.pass(1);
        x.enter(1, 0, 8, 0);
        check.due("27: solvedAt(1, 0)", x.solvedAt(1, 0), 30);
    }

    /** The last solver in the last cell of the last puzzle. */
    private static void lastOfAll() {
        Clueyard x = House.withMostPuzzles();
        for (int s = 0; s < 6; s++) {
            x.addSolver(s, 100);
        }
        x.pass(24);
        check.due("25: help(5, 19, 8)", x.help(5, 19, 8), 0);
        check.due("29: coins(5)", x.coins(5), 95);
        House.enterCells(x, 5, 19, 0, 7);
        check.due("27: solvedAt(5, 19)", x.solvedAt(5, 19), 24 * 420);
        check.due("27: solvedAt(5, 18)", x.solvedAt(5, 18), Clueyard.NONE);
        check.due("31: streakAnew(5)", x.streakAnew(5), 1);
        check.due("26: judge(19, 5)", x.judge(19, 5), 0);
        check.due("29: coins(5) then", x.coins(5), 100);
        check.due("28: open(19)", x.open(19), 292);
        check.due("28: open(18)", x.open(18), 0);
        check.due("32: solverAt(0)", x.solverAt(0), 5);
        check.due("32: solverAt(5)", x.solverAt(5), 4);
    }

    private static void wrongNumbers() {
        Clueyard x = House.withPuzzle();
        x.addSolver(0, 100);
        int[] wrong = {-1, 1, Integer.MAX_VALUE, Integer.MIN_VALUE};
        for (int n : wrong) {
            check.bounds("24: enter(" + n + ", 0, 0, 0)", () -> x.enter(n, 0, 0, 0));
            check.bounds("24: enter(0, " + n + ", 0, 0)", () -> x.enter(0, n, 0, 0));
            check.bounds("25: help(" + n + ", 0, 0)", () -> x.help(n, 0, 0));
            check.bounds("25: help(0, " + n + ", 0)", () -> x.help(0, n, 0));
            check.bounds("27: solvedAt(" + n + ", 0)", () -> x.solvedAt(n, 0));
            check.bounds("27: solvedAt(0, " + n + ")", () -> x.solvedAt(0, n));
            check.bounds("28: open(" + n + ")", () -> x.open(n));
            check.bounds("29: coins(" + n + ")", () -> x.coins(n));
            check.bounds("30: streak(" + n + ")", () -> x.streak(n));
            check.bounds("31: streakAnew(" + n + ")", () -> x.streakAnew(n));
        }
        int[] noCell = {-1, 9, Integer.MAX_VALUE, Integer.MIN_VALUE};
        for (int n : noCell) {
            check.bounds("24: enter(0, 0, " + n + ", 0)", () -> x.enter(0, 0, n, 0));
            check.bounds("24: enter(0, 0, 0, " + n + ")", () -> x.enter(0, 0, 0, n));
            check.bounds("25: help(0, 0, " + n + ")", () -> x.help(0, 0, n));
        }
        check.due("29: coins(0)", x.coins(0), 100);
        check.due("28: open(0)", x.open(0), 0);
    }
}
