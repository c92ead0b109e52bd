/** The example of README.md answers as it says there. */
public final class ReadmeTest {
    private static final Check check = new Check();

    public static void main(String[] args) {
        Clueyard house = new Clueyard();
        check.due("spell(0)", house.spell(0), 1);
        house.spell(0);
        house.spell(0);
        int word = house.addWord(5);
        for (int i = 0; i < 6; i++) {
            int clue = house.clue(word);
            check.due("edit(" + clue + ", true)", house.edit(clue, true), 1);
            check.due("edit(" + clue + ", true) again", house.edit(clue, true), 2);
        }
        check.due("fillWeight()", house.fillWeight(), 30);
        int puzzle = house.publish();
        int solver = house.addSolver(1, 100);
        check.due("enter of the cell 0", house.enter(solver, puzzle, 0, 0), true);
        check.due("help in the cell 1", house.help(solver, puzzle, 1), 0);
        check.due("coins behind that", house.coins(solver), 95);
        for (int cell = 2; cell < 8; cell++) {
            house.enter(solver, puzzle, cell, 0);
        }
        check.due("pass(24)", house.pass(24), 24);
        check.due("judge of the last column", house.judge(puzzle, 5), 1);
        check.due("streak", house.streak(solver), 1);
        check.due("judge of the first row", house.judge(puzzle, 0), 0);
        check.due("coins", house.coins(solver), 100);
        check.state("enter of an open cell", () -> house.enter(solver, puzzle, 2, 0));
        check.end();
    }
}
