/** The edges that the sentences under "Solvers" and "Exceptions" name: one test for each sentence. */
public final class SolverTermsTest {
    private static final Check check = new Check();

    public static void main(String[] args) {
        noSolversAndMostSolvers();
        leastAndMostCoins();
        dayOfTheSolver();
        rightFromTheHourOn();
        costsOfHelp();
        costsAlsoIfPaidBack();
        openForAll();
        judgedOnce();
        paidBackWhenOpen();
        someCellIsRight();
        eachCellRightOrOpen();
        greatestHour();
        hourOfPublishing();
        goesOnCounting();
        streaksOfEachLength();
        streakEndsAtOwnMidnight();
        neitherDayCounts();
        longerByJudging();
        keptAndAnew();
        placesOfSolvers();
        check.end();
    }

    private static void streak(String when, Clueyard x, int solver, int due) {
        check.due("streak(" + solver + ") " + when, x.streak(solver), due);
        check.due("streakAnew(" + solver + ") " + when, x.streakAnew(solver), due);
    }

    // "Solvers are numbered from 0, at most 6."
    private static void noSolversAndMostSolvers() {
        Clueyard x = House.withPuzzle();
        check.due("solverAt(0) of no solvers", x.solverAt(0), Clueyard.NONE);
        check.bounds("coins(0) of no solvers", () -> x.coins(0));
        check.bounds("streak(0) of no solvers", () -> x.streak(0));
        check.bounds("streakAnew(0) of no solvers", () -> x.streakAnew(0));
        check.bounds("solvedAt(0, 0) of no solvers", () -> x.solvedAt(0, 0));
        check.bounds("enter(0, 0, 0, 0) of no solvers", () -> x.enter(0, 0, 0, 0));
        check.bounds("help(0, 0, 0) of no solvers", () -> x.help(0, 0, 0));
        check.due("judge(0, 5) for no solvers", x.judge(0, 5), 0);
        for (int s = 0; s < 6; s++) {
            check.due("addSolver number " + s, x.addSolver(s, s), s);
            check.due("solverAt(" + s + ") then", x.solverAt(s), 0);
            check.due("solverAt(" + (s + 1) + ") then", x.solverAt(s + 1), Clueyard.NONE);
        }
        check.state("addSolver, one too many", () -> x.addSolver(0, 0));
        check.due("coins(5)", x.coins(5), 5);
        check.bounds("coins(6)", () -> x.coins(6));
        check.due("enter(5, 0, 0, 0)", x.enter(5, 0, 0, 0), true);
        check.bounds("enter(6, 0, 0, 0)", () -> x.enter(6, 0, 0, 0));
    }

    // "A solver has coins and an offset in hours" (coins 0 to 1000)
    private static void leastAndMostCoins() {
        Clueyard x = House.withPuzzle();
        check.argument("addSolver(0, -1)", () -> x.addSolver(0, -1));
        check.argument("addSolver(0, 1001)", () -> x.addSolver(0, 1001));
        check.due("addSolver(0, 0)", x.addSolver(0, 0), 0);
        check.due("addSolver(0, 1000)", x.addSolver(0, 1000), 1);
        check.state("help(0, 0, 0) for no coins", () -> x.help(0, 0, 0));
        check.due("coins(0)", x.coins(0), 0);
        x.help(1, 0, 0);
        check.due("coins(1) with a help paid", x.coins(1), 995);
        x.judge(0, 0);
        check.due("coins(1) with it paid back", x.coins(1), 1000);
        check.due("coins(0) of the one without", x.coins(0), 0);
    }

    // "its day in an hour is that hour and the offset, together, divided by 24, rounded down"
    private static void dayOfTheSolver() {
        int[] offsets = {-12, -1, 0, 1, 14};
        int[] lastOfFirstDay = {11, 0, 23, 22, 9};
        for (int i = 0; i < offsets.length; i++) {
            Clueyard x = House.withPuzzle();
            x.addSolver(offsets[i], 0);
            House.enterCells(x, 0, 0, 0, 8);
            String of = "of the offset " + offsets[i];
            streak(of + " in the hour 0", x, 0, 1);
            House.until(x, lastOfFirstDay[i]);
            streak(of + " in the last hour of its day", x, 0, 1);
            House.until(x, lastOfFirstDay[i] + 24);
            streak(of + " in the last hour of its next day", x, 0, 1);
            x.pass(1);
            streak(of + " behind that", x, 0, 0);
        }
        Clueyard y = House.withPuzzle();
        y.addSolver(-12, 0);
        y.addSolver(-12, 0);
        House.enterCells(y, 0, 0, 0, 8);
        streak("on the day ahead of the day 0", y, 0, 1);
        streak("on it, of one that has not solved it", y, 1, 0);
        y.pass(12);
        House.enterCells(y, 1, 0, 0, 8);
        streak("on the day 0, of one that solved it then", y, 1, 1);
        streak("on the day 0, of the first one", y, 0, 1);
    }

    // "A cell of a puzzle is right for a solver from the hour on in which it entered the right letter
    // there, or was helped there."
    private static void rightFromTheHourOn() {
        Clueyard x = House.withPuzzle();
        x.addSolver(0, 5);
        x.addSolver(0, 5);
        for (int letter = 1; letter <= 8; letter++) {
            check.due("enter(0, 0, 0, " + letter + ")", x.enter(0, 0, 0, letter), false);
        }
        check.due("enter(0, 0, 0, 0) behind wrong ones", x.enter(0, 0, 0, 0), true);
        for (int letter = 0; letter <= 8; letter++) {
            int tried = letter;
            check.state("enter(0, 0, 0, " + letter + ") of a right cell", () -> x.enter(0, 0, 0, tried));
        }
        check.state("help(0, 0, 0) of a right cell", () -> x.help(0, 0, 0));
        check.due("coins(0) then", x.coins(0), 5);
        check.due("help(0, 0, 1)", x.help(0, 0, 1), 0);
        check.state("enter(0, 0, 1, 0) of a helped cell", () -> x.enter(0, 0, 1, 0));
        check.state("help(0, 0, 1) of a helped cell", () -> x.help(0, 0, 1));
        check.due("enter(1, 0, 1, 0) of another solver", x.enter(1, 0, 1, 0), true);
        check.due("help(1, 0, 0) of another solver", x.help(1, 0, 0), 0);
    }

    // "Help costs 5 coins at first, and twice as much each further time in the same puzzle ... but 40 at
    // most." and "or the solver has not so many coins"
    private static void costsOfHelp() {
        int[] sums = {5, 15, 35, 75, 115, 155, 195, 235, 275};
        Clueyard most = House.withPuzzle();
        most.addSolver(0, 1000);
        for (int times = 0; times < 9; times++) {
            Clueyard x = House.withPuzzle();
            x.addSolver(0, sums[times]);
            x.addSolver(0, sums[times] - 1);
            for (int cell = 0; cell < times; cell++) {
                x.help(0, 0, cell);
                x.help(1, 0, cell);
            }
            int last = times;
            check.due("help for the last coins, number " + times, x.help(0, 0, last), 0);
            check.due("coins(0) then", x.coins(0), 0);
            int left = x.coins(1);
            check.state("help for a coin too few, number " + times, () -> x.help(1, 0, last));
            check.due("coins(1) then", x.coins(1), left);
            check.due("enter(1, 0, " + last + ", 0) then", x.enter(1, 0, last, 0), true);
            most.help(0, 0, times);
            check.due("coins of the one with 1000", most.coins(0), 1000 - sums[times]);
        }
    }

    // "also if an earlier one was paid back"
    private static void costsAlsoIfPaidBack() {
        Clueyard x = House.withPuzzles(2, 0);
        x.addSolver(0, 1000);
        x.help(0, 0, 0);
        x.help(0, 0, 1);
        x.judge(0, 0);
        check.due("coins(0) with both paid back", x.coins(0), 1000);
        x.help(0, 0, 3);
        check.due("coins(0) behind the third help", x.coins(0), 980);
        x.help(0, 1, 3);
        check.due("coins(0) behind the first help in the other puzzle", x.coins(0), 975);
        x.judge(0, 1);
        check.due("coins(0) with the third paid back", x.coins(0), 995);
        x.help(0, 0, 6);
        check.due("coins(0) behind the fourth help", x.coins(0), 955);
        x.help(0, 0, 7);
        check.due("coins(0) behind the fifth help", x.coins(0), 915);
    }

    // "Entries of a puzzle can be judged wrong; their cells are open then for all."
    private static void openForAll() {
        int[] due = {7, 56, 448, 73, 146, 292};
        for (int e = 0; e < 6; e++) {
            Clueyard x = House.withPuzzles(2, 0);
            x.addSolver(0, 1000);
            x.judge(0, e);
            x.addSolver(0, 1000);
            check.due("open(0) by the entry " + e, x.open(0), due[e]);
            check.due("open(1) by the entry " + e + " of the puzzle 0", x.open(1), 0);
            int entry = e;
            check.state("judge(0, " + e + ") again", () -> x.judge(0, entry));
            for (int cell = 0; cell < 9; cell++) {
                boolean isOpen = (due[e] >> cell & 1) == 1;
                check.due("the cell " + cell + " is open", isRefused(x, 0, cell), isOpen);
                check.due("the cell " + cell + " is open for one who came later", isRefused(x, 1, cell), isOpen);
            }
            check.due("enter(0, 1, 0, 0) in the other puzzle", x.enter(0, 1, 0, 0), true);
        }
    }

    // "IllegalStateException if it was judged wrong"
    private static void judgedOnce() {
        for (int e = 0; e < 6; e++) {
            Clueyard x = House.withPuzzles(2, 0);
            int entry = e;
            for (int i = 0; i < 6; i++) {
                int next = (e + i) % 6;
                check.due("judge(0, " + next + ") begun with " + e, x.judge(0, next), 0);
                check.state("judge(0, " + next + ") again", () -> x.judge(0, next));
                check.state("judge(0, " + e + ") behind judge(0, " + next + ")", () -> x.judge(0, entry));
            }
            check.due("open(0) by all entries", x.open(0), 511);
            check.due("judge(1, " + e + ") of the other puzzle", x.judge(1, e), 0);
        }
    }

    private static boolean isRefused(Clueyard x, int solver, int cell) {
        boolean isHelp = cell % 2 == 0;
        String call = isHelp ? "help " + solver + " 0 " + cell : "enter " + solver + " 0 " + cell + " 0";
        return Calls.answer(x, call).equals(Calls.STATE);
    }

    // "What a solver paid for help in a cell is paid back when the cell becomes open."
    private static void paidBackWhenOpen() {
        for (int e = 0; e < 6; e++) {
            for (int cell = 0; cell < 9; cell++) {
                Clueyard x = House.withPuzzles(2, 0);
                x.addSolver(0, 35);
                x.addSolver(0, 0);
                int other = (cell + 1) % 9;
                x.help(0, 0, other);
                x.help(0, 0, cell);
                x.enter(1, 0, cell, 0);
                x.judge(0, e);
                int back = (isOf(e, other) ? 5 : 0) + (isOf(e, cell) ? 10 : 0);
                check.due("coins(0) behind judge(0, " + e + ")", x.coins(0), 20 + back);
                check.due("coins(1) who paid nothing", x.coins(1), 0);
                for (int more = 0; more < 6; more++) {
                    if (more != e) {
                        x.judge(0, more);
                    }
                }
                check.due("coins(0) behind all", x.coins(0), 35);
                x.judge(1, e);
                check.due("coins(0) behind the other puzzle's", x.coins(0), 35);
            }
        }
    }

    private static boolean isOf(int entry, int cell) {
        return entry < 3 ? cell / 3 == entry : cell % 3 == entry - 3;
    }

    // "A solver has solved a puzzle if some cell of it, open or not, is right for it"
    private static void someCellIsRight() {
        for (int cell = 0; cell < 9; cell++) {
            Clueyard x = House.withPuzzle();
            x.addSolver(0, 5);
            x.addSolver(0, 5);
            x.addSolver(0, 5);
            x.enter(1, 0, cell, 0);
            x.help(2, 0, cell);
            check.due("judge(0, 0)", x.judge(0, 0), 0);
            check.due("judge(0, 1)", x.judge(0, 1), 0);
            check.due("judge(0, 2) of the last row", x.judge(0, 2), 2);
            check.due("solvedAt(0, 0) without a right cell", x.solvedAt(0, 0), Clueyard.NONE);
            check.due("solvedAt(1, 0) with the cell " + cell, x.solvedAt(1, 0), 0);
            check.due("solvedAt(2, 0) with the cell " + cell, x.solvedAt(2, 0), 0);
            streak("without a right cell", x, 0, 0);
            streak("with the cell " + cell, x, 1, 1);
        }
    }

    // "and each cell is right for it or open"
    private static void eachCellRightOrOpen() {
        for (int missing = 0; missing < 9; missing++) {
            Clueyard x = House.withPuzzle();
            x.addSolver(0, 5);
            x.addSolver(0, 5);
            for (int cell = 0; cell < 9; cell++) {
                if (cell != missing) {
                    x.enter(0, 0, cell, 0);
                    x.enter(1, 0, cell, 0);
                }
            }
            check.due("solvedAt(0, 0) without the cell " + missing, x.solvedAt(0, 0), Clueyard.NONE);
            streak("without the cell " + missing, x, 0, 0);
            x.enter(0, 0, missing, 1);
            check.due("solvedAt(0, 0) with a wrong letter in it", x.solvedAt(0, 0), Clueyard.NONE);
            x.help(0, 0, missing);
            check.due("solvedAt(0, 0) with help in it", x.solvedAt(0, 0), 0);
            int apart = (missing / 3 + 1) % 3;
            check.due("judge of another row", x.judge(0, apart), 0);
            check.due("solvedAt(1, 0) with another row open", x.solvedAt(1, 0), Clueyard.NONE);
            check.due("judge of its column", x.judge(0, 3 + missing % 3), 1);
            check.due("solvedAt(1, 0) with its column open", x.solvedAt(1, 0), 0);
        }
    }

    // "It solved it in the greatest hour in which a cell that is not open became right for it"
    private static void greatestHour() {
        for (int last = 0; last < 9; last++) {
            Clueyard x = House.withPuzzle();
            x.addSolver(0, 0);
            for (int i = 1; i <= 9; i++) {
                x.pass(1);
                x.enter(0, 0, (last + i) % 9, 0);
                check.due("solvedAt(0, 0) in the hour " + i, x.solvedAt(0, 0), i == 9 ? 9 : Clueyard.NONE);
            }
            x.judge(0, last / 3);
            int greatest = 0;
            for (int i = 1; i <= 9; i++) {
                greatest = (last + i) % 9 / 3 == last / 3 ? greatest : i;
            }
            check.due("solvedAt(0, 0) with the last row open", x.solvedAt(0, 0), greatest);
        }
    }

    // "if there is none such, in the hour in which the puzzle was published"
    private static void hourOfPublishing() {
        int[] hours = {0, 23, 24, 29976};
        for (int hour : hours) {
            Clueyard x = Start.ONE_WORD.make();
            House.readyClues(x, 0, 6);
            House.until(x, hour);
            x.publish();
            x.addSolver(0, 0);
            x.pass(1);
            x.enter(0, 0, 8, 0);
            x.judge(0, 3);
            x.judge(0, 4);
            check.due("solvedAt(0, 0) by one right cell of three", x.solvedAt(0, 0), Clueyard.NONE);
            check.due("judge(0, 5) in the hour " + (hour + 1), x.judge(0, 5), 1);
            check.due("solvedAt(0, 0) published in the hour " + hour, x.solvedAt(0, 0), hour);
            x.pass(23);
            streak("in the hour " + (hour + 24), x, 0, 1);
        }
    }

    // "A day of a solver counts as soon as it has solved some puzzle in an hour of this day, and goes on
    // counting, whatever is judged later."
    private static void goesOnCounting() {
        Clueyard x = House.withPuzzle();
        x.addSolver(0, 0);
        House.enterCells(x, 0, 0, 0, 2);
        x.pass(24);
        House.enterCells(x, 0, 0, 3, 5);
        x.pass(24);
        House.enterCells(x, 0, 0, 6, 7);
        streak("ahead of the last cell", x, 0, 0);
        House.enterCells(x, 0, 0, 8, 8);
        streak("of the day 2", x, 0, 1);
        check.due("judge(0, 2)", x.judge(0, 2), 1);
        check.due("solvedAt(0, 0) then", x.solvedAt(0, 0), 24);
        streak("of the days 1 and 2", x, 0, 2);
        check.due("judge(0, 1)", x.judge(0, 1), 1);
        check.due("solvedAt(0, 0) then", x.solvedAt(0, 0), 0);
        streak("of the days 0 to 2", x, 0, 3);
        check.due("judge(0, 0)", x.judge(0, 0), 0);
        check.due("solvedAt(0, 0) with all open", x.solvedAt(0, 0), 0);
        streak("of the days 0 to 2 again", x, 0, 3);
        House.until(x, 95);
        streak("in the last hour of the day 3", x, 0, 3);
        x.pass(1);
        streak("in the first hour of the day 4", x, 0, 0);
    }

    // "Its streak is the number of days that count, one after the other, back from its day of now"
    private static void streaksOfEachLength() {
        int[] offsets = {-12, 0, 14};
        for (int offset : offsets) {
            Clueyard x = Start.FULL_PUZZLES.make();
            int solver = x.addSolver(offset, 0);
            streak("at first", x, solver, 0);
            for (int days = 1; days <= 20; days++) {
                House.enterCells(x, solver, days - 1, 0, 8);
                streak("of " + days + " days", x, solver, days);
                x.pass(24);
            }
            streak("on the day behind", x, solver, 20);
            x.pass(24);
            streak("two days behind", x, solver, 0);
        }
    }

    // "or from the day ahead of that, if its day of now does not count"
    private static void streakEndsAtOwnMidnight() {
        for (int offset = -12; offset <= 14; offset++) {
            Clueyard x = House.withPuzzles(2, 0);
            x.addSolver(offset, 0);
            int midnight = 72 - offset;
            House.until(x, midnight - 1);
            House.enterCells(x, 0, 0, 0, 8);
            streak("solved ahead of the midnight of " + offset, x, 0, 1);
            House.until(x, midnight + 23);
            streak("a day later", x, 0, 1);
            House.enterCells(x, 0, 1, 0, 8);
            streak("solved ahead of the next midnight", x, 0, 2);
            House.until(x, midnight + 47);
            streak("a day later", x, 0, 2);
            House.until(x, midnight + 48);
            streak("behind the midnight after", x, 0, 0);
        }
    }

    // "0 if neither does"
    private static void neitherDayCounts() {
        Clueyard x = House.withPuzzles(2, 0);
        x.addSolver(0, 0);
        streak("with no day that counts", x, 0, 0);
        House.enterCells(x, 0, 0, 0, 8);
        x.pass(48);
        streak("two days behind", x, 0, 0);
        House.enterCells(x, 0, 1, 0, 8);
        streak("with a gap of one day", x, 0, 1);
        x.pass(24);
        streak("with a gap of one day, a day later", x, 0, 1);
        x.pass(24);
        streak("with a gap of one day, two days later", x, 0, 0);
    }

    // "Returns of how many solvers the streak is longer by that."
    private static void longerByJudging() {
        for (int many = 0; many <= 6; many++) {
            Clueyard x = House.withPuzzle();
            for (int s = 0; s < 6; s++) {
                x.addSolver(0, 0);
                House.enterCells(x, s, 0, s < many ? 3 : 4, 8);
            }
            x.pass(47);
            check.due("judge(0, 0) for " + many + " solvers", x.judge(0, 0), many);
            check.due("judge(0, 3) for the others", x.judge(0, 3), 6 - many);
            check.due("judge(0, 1) for none", x.judge(0, 1), 0);
        }
        Clueyard late = House.withPuzzle();
        late.addSolver(0, 0);
        House.enterCells(late, 0, 0, 3, 8);
        late.pass(48);
        check.due("judge(0, 0) too late for the streak", late.judge(0, 0), 0);
        check.due("solvedAt(0, 0) then", late.solvedAt(0, 0), 0);
        streak("too late", late, 0, 0);
    }

    // "Returns the same, found by going through all cells that became right and all entries that were
    // judged wrong, in their order."
    private static void keptAndAnew() {
        Clueyard x = House.withPuzzles(2, 0);
        x.addSolver(0, 0);
        x.addSolver(0, 0);
        House.enterCells(x, 0, 0, 0, 8);
        House.enterCells(x, 1, 0, 0, 5);
        x.judge(0, 0);
        x.judge(0, 1);
        streak("of the one that solved it", x, 0, 1);
        streak("of the other, whose cells are open", x, 1, 0);
        x.pass(24);
        House.enterCells(x, 1, 1, 0, 8);
        streak("of the other on the next day", x, 1, 1);
        check.due("judge(0, 2) that opens all", x.judge(0, 2), 1);
        streak("with the day of publishing, that is not next to it", x, 1, 1);
        streak("with the day of publishing, that is next to it", x, 0, 2);
        x.addSolver(0, 0);
        streak("of one who came later", x, 2, 0);
        Clueyard y = House.withPuzzles(2, 0);
        y.addSolver(0, 0);
        House.enterCells(y, 0, 0, 0, 4);
        House.enterCells(y, 0, 1, 5, 8);
        streak("with parts of two puzzles that would make one", y, 0, 0);
        y.judge(0, 2);
        y.judge(1, 0);
        streak("with a part of each open", y, 0, 0);
        House.enterCells(y, 0, 0, 5, 5);
        streak("with one of them solved", y, 0, 1);
    }

    // "the longest streak first, of the same the one with more coins, of the same the lowest number"
    private static void placesOfSolvers() {
        Clueyard same = House.withPuzzle();
        for (int s = 0; s < 6; s++) {
            same.addSolver(s - 3, 8);
        }
        places(same, 0, 1, 2, 3, 4, 5);
        House.enterCells(same, 5, 0, 0, 8);
        places(same, 5, 0, 1, 2, 3, 4);
        same.help(2, 0, 0);
        places(same, 5, 0, 1, 3, 4, 2);
        same.judge(0, 0);
        places(same, 5, 0, 1, 2, 3, 4);
        House.enterCells(same, 2, 0, 3, 8);
        places(same, 2, 5, 0, 1, 3, 4);
        same.pass(72);
        places(same, 0, 1, 2, 3, 4, 5);
        Clueyard rising = Start.FULL_SOLVERS.make();
        places(rising, 5, 4, 3, 2, 1, 0);
    }

    private static void places(Clueyard x, int... due) {
        for (int place = 0; place < due.length; place++) {
            check.due("solverAt(" + place + ")", x.solverAt(place), due[place]);
        }
        check.due("solverAt(-1)", x.solverAt(-1), Clueyard.NONE);
        check.due("solverAt(" + due.length + ")", x.solverAt(due.length), Clueyard.NONE);
    }
}
