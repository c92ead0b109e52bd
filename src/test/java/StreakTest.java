/** Promises 30 to 32: streaks by the solvers' own midnights, and the order of solvers. */
public final class StreakTest {
    private static final Check check = new Check();

    public static void main(String[] args) {
        daysInARow();
        lastCellTheDayAfter();
        ownMidnights();
        dayAheadOfTheFirst();
        lastDayOfAll();
        daysGoOnCounting();
        mended();
        joinedByMending();
        bothInOneDay();
        lateSolver();
        order();
        orderChanges();
        check.end();
    }

    private static void streak(String when, Clueyard x, int solver, int due) {
        check.due("30: streak(" + solver + ") " + when, x.streak(solver), due);
        check.due("31: streakAnew(" + solver + ") " + when, x.streakAnew(solver), due);
    }

    private static void daysInARow() {
        Clueyard x = House.withPuzzles(5, 0);
        x.addSolver(0, 0);
        streak("at first", x, 0, 0);
        House.enterCells(x, 0, 0, 0, 8);
        streak("on the first day", x, 0, 1);
        x.pass(24);
        streak("before the second is solved", x, 0, 1);
        House.enterCells(x, 0, 1, 0, 8);
        streak("on the second day", x, 0, 2);
        x.pass(47);
        streak("on the day behind", x, 0, 2);
        x.pass(1);
        streak("two days behind", x, 0, 0);
        House.enterCells(x, 0, 2, 0, 8);
        streak("begun anew", x, 0, 1);
        x.pass(24);
        House.enterCells(x, 0, 3, 0, 8);
        streak("on the next day", x, 0, 2);
        House.enterCells(x, 0, 4, 0, 8);
        streak("with two on the same day", x, 0, 2);
    }

    /** The day that counts is that of the last cell, for each of two solvers with other last cells. */
    private static void lastCellTheDayAfter() {
        Clueyard x = House.withPuzzle();
        x.addSolver(0, 0);
        x.addSolver(0, 0);
        House.enterCells(x, 0, 0, 1, 8);
        House.enterCells(x, 1, 0, 0, 7);
        for (int s = 0; s < 2; s++) {
            streak("ahead of the last cell", x, s, 0);
        }
        House.until(x, 24);
        House.enterCells(x, 0, 0, 0, 0);
        House.enterCells(x, 1, 0, 8, 8);
        for (int s = 0; s < 2; s++) {
            streak("on the day of the last cell", x, s, 1);
        }
        House.until(x, 48);
        for (int s = 0; s < 2; s++) {
            streak("a day later", x, s, 1);
        }
        House.until(x, 72);
        for (int s = 0; s < 2; s++) {
            streak("two days later", x, s, 0);
        }
    }

    private static void ownMidnights() {
        Clueyard x = House.withPuzzles(2, 0);
        int[] offsets = {0, 14, -12, 1, -1};
        for (int offset : offsets) {
            x.addSolver(offset, 0);
        }
        x.pass(9);
        check.due("20: now()", x.now(), 33);
        for (int s = 0; s < 5; s++) {
            House.enterCells(x, s, 0, 0, 8);
        }
        x.pass(1);
        House.enterCells(x, 1, 1, 0, 8);
        streak("across its own midnight", x, 1, 2);
        x.pass(1);
        House.enterCells(x, 2, 1, 0, 8);
        streak("ahead of its own midnight", x, 2, 1);
        House.until(x, 59);
        streak("in the hour 59 of the latest", x, 2, 1);
        x.pass(1);
        streak("in the hour 60 of the latest", x, 2, 0);
        House.until(x, 70);
        streak("in the hour 70 of the one an hour ahead", x, 3, 1);
        x.pass(1);
        streak("in the hour 71 of the one an hour ahead", x, 3, 0);
        streak("in the hour 71", x, 0, 1);
        x.pass(1);
        streak("in the hour 72", x, 0, 0);
        streak("in the hour 72 of the one an hour behind", x, 4, 1);
        x.pass(1);
        streak("in the hour 73 of the one an hour behind", x, 4, 0);
        House.until(x, 81);
        streak("in the hour 81 of the last one", x, 1, 2);
        x.pass(1);
        streak("in the hour 82 of the last one", x, 1, 0);
    }

    /** With an offset below 0 the first hours lie in the day -1. */
    private static void dayAheadOfTheFirst() {
        Clueyard x = House.withPuzzle();
        x.addSolver(-12, 0);
        House.enterCells(x, 0, 0, 0, 8);
        streak("in the hour 0", x, 0, 1);
        x.addSolver(-12, 0);
        streak("of another in the hour 0", x, 1, 0);
        House.until(x, 12);
        streak("in the hour 12", x, 0, 1);
        House.until(x, 24);
        House.readyClues(x, 0, 6);
        x.publish();
        House.enterCells(x, 0, 1, 0, 8);
        streak("in the hour 24", x, 0, 2);
        House.until(x, 59);
        streak("in the hour 59", x, 0, 2);
        x.pass(1);
        streak("in the hour 60", x, 0, 0);
    }

    private static void lastDayOfAll() {
        Clueyard x = House.withPuzzle();
        x.addSolver(14, 0);
        x.addSolver(-12, 0);
        House.until(x, 30000);
        House.enterCells(x, 0, 0, 0, 8);
        House.enterCells(x, 1, 0, 0, 8);
        streak("in the hour 30000", x, 0, 1);
        streak("in the hour 30000", x, 1, 1);
        check.due("27: solvedAt(0, 0)", x.solvedAt(0, 0), 30000);
    }

    private static void daysGoOnCounting() {
        Clueyard x = House.withPuzzle();
        x.addSolver(0, 0);
        House.enterCells(x, 0, 0, 0, 5);
        House.until(x, 24);
        House.enterCells(x, 0, 0, 6, 8);
        streak("with the last row on day 1", x, 0, 1);
        check.due("26: judge(0, 2)", x.judge(0, 2), 1);
        check.due("27: solvedAt(0, 0)", x.solvedAt(0, 0), 0);
        streak("with both days", x, 0, 2);
        House.until(x, 71);
        streak("in the hour 71", x, 0, 2);
    }

    /** The judging fills the gap between two days that count. */
    private static void mended() {
        Clueyard x = House.withPuzzles(3, 0);
        x.addSolver(0, 0);
        House.enterCells(x, 0, 0, 0, 8);
        House.until(x, 72);
        House.enterCells(x, 0, 1, 0, 5);
        House.until(x, 96);
        House.enterCells(x, 0, 2, 0, 8);
        streak("with a gap", x, 0, 1);
        check.due("26: judge(1, 1) that leaves cells", x.judge(1, 1), 0);
        check.due("26: judge(1, 2) that fills the gap", x.judge(1, 2), 1);
        streak("mended", x, 0, 3);
        check.due("26: judge(1, 3) of a solved one", x.judge(1, 3), 0);
        streak("as before", x, 0, 3);
    }

    private static void joinedByMending() {
        Clueyard x = House.withPuzzles(2, 0);
        x.addSolver(0, 0);
        x.addSolver(0, 0);
        House.enterCells(x, 0, 0, 0, 7);
        House.enterCells(x, 1, 0, 0, 8);
        House.until(x, 48);
        House.enterCells(x, 0, 1, 0, 8);
        House.enterCells(x, 1, 1, 0, 8);
        streak("of one day", x, 0, 1);
        streak("of two days", x, 1, 2);
        check.due("26: judge(0, 5)", x.judge(0, 5), 1);
        streak("of two days then", x, 0, 2);
    }

    private static void bothInOneDay() {
        Clueyard x = House.withPuzzles(2, 0);
        x.addSolver(0, 0);
        House.enterCells(x, 0, 0, 0, 8);
        House.enterCells(x, 0, 1, 0, 7);
        check.due("26: judge(1, 2) for a day that counts", x.judge(1, 2), 0);
        check.due("27: solvedAt(0, 1)", x.solvedAt(0, 1), 24);
        streak("of one day", x, 0, 1);
    }

    /** It came behind the judging, and behind the day on which the puzzle was published. */
    private static void lateSolver() {
        Clueyard x = House.withPuzzle();
        x.judge(0, 0);
        x.judge(0, 1);
        House.until(x, 30);
        x.addSolver(0, 0);
        streak("at first", x, 0, 0);
        x.enter(0, 0, 7, 0);
        check.due("26: judge(0, 2)", x.judge(0, 2), 1);
        streak("by the hour of publishing", x, 0, 1);
        House.until(x, 48);
        streak("a day later", x, 0, 0);
    }

    private static void order() {
        Clueyard x = House.withPuzzles(2, 0);
        int[] coins = {7, 9, 7, 9, 0, 1000};
        for (int c : coins) {
            x.addSolver(0, c);
        }
        House.enterCells(x, 4, 0, 0, 8);
        House.enterCells(x, 2, 0, 0, 8);
        House.until(x, 48);
        House.enterCells(x, 4, 1, 0, 8);
        int[] due = {4, 2, 5, 1, 3, 0};
        for (int place = 0; place < 6; place++) {
            check.due("32: solverAt(" + place + ")", x.solverAt(place), due[place]);
        }
        check.due("32: solverAt(6)", x.solverAt(6), Clueyard.NONE);
        check.due("32: solverAt(-1)", x.solverAt(-1), Clueyard.NONE);
        check.due("32: solverAt(MAX)", x.solverAt(Integer.MAX_VALUE), Clueyard.NONE);
        check.due("32: solverAt(MIN)", x.solverAt(Integer.MIN_VALUE), Clueyard.NONE);
    }

    private static void orderChanges() {
        Clueyard x = House.withPuzzle();
        x.addSolver(0, 20);
        x.addSolver(0, 20);
        check.due("32: solverAt(0) of the same", x.solverAt(0), 0);
        x.help(0, 0, 0);
        check.due("32: solverAt(0) behind a help", x.solverAt(0), 1);
        x.judge(0, 0);
        check.due("32: solverAt(0) with it paid back", x.solverAt(0), 0);
        check.due("32: solverAt(1) with it paid back", x.solverAt(1), 1);
        check.due("32: solverAt(2)", x.solverAt(2), Clueyard.NONE);
        House.enterCells(x, 1, 0, 3, 8);
        check.due("32: solverAt(0) with a streak", x.solverAt(0), 1);
        x.pass(48);
        check.due("32: solverAt(0) with the streak gone", x.solverAt(0), 0);
    }
}
