/** Promises 16 to 22: clues, hours and puzzles. */
public final class ClueTest {
    private static final Check check = new Check();

    public static void main(String[] args) {
        writing();
        editing();
        passing();
        publishing();
        oneADay();
        aYear();
        usedLongestAgo();
        cluesOfTheEntries();
        nothingChangesWithoutClues();
        puzzlesStay();
        mostPuzzles();
        check.end();
    }

    private static void writing() {
        Clueyard x = new Clueyard();
        check.bounds("16: clue(0) without words", () -> x.clue(0));
        House.word(x, "aaa", 1);
        House.word(x, "bbb", 1);
        for (int c = 0; c < 60; c++) {
            check.due("16: clue number " + c, x.clue(c % 2), c);
        }
        check.state("16: clue(0), one too many", () -> x.clue(0));
        check.bounds("16: clue(2), one too many", () -> x.clue(2));
        check.bounds("16: clue(-1)", () -> x.clue(-1));
        check.due("17: edit(59, true)", x.edit(59, true), 1);
        check.bounds("17: edit(60, true)", () -> x.edit(60, true));
        check.bounds("18: lastUsed(60)", () -> x.lastUsed(60));
    }

    private static void editing() {
        Clueyard x = new Clueyard();
        House.word(x, "aaa", 1);
        check.bounds("17: edit(0, true) without clues", () -> x.edit(0, true));
        x.clue(0);
        x.clue(0);
        check.due("17: edit(0, false)", x.edit(0, false), 0);
        check.due("17: edit(0, true)", x.edit(0, true), 1);
        check.due("17: edit(0, false) of stage 1", x.edit(0, false), 0);
        check.due("17: edit(0, true) anew", x.edit(0, true), 1);
        check.due("17: edit(0, true) of stage 1", x.edit(0, true), 2);
        check.state("17: edit(0, true) of a READY clue", () -> x.edit(0, true));
        check.state("17: edit(0, false) of a READY clue", () -> x.edit(0, false));
        check.due("17: edit(1, true) of another", x.edit(1, true), 1);
        check.bounds("17: edit(2, true)", () -> x.edit(2, true));
        check.bounds("17: edit(-1, false)", () -> x.edit(-1, false));
        check.due("18: lastUsed(0)", x.lastUsed(0), Clueyard.NONE);
        check.bounds("18: lastUsed(2)", () -> x.lastUsed(2));
        check.bounds("18: lastUsed(-1)", () -> x.lastUsed(-1));
    }

    private static void passing() {
        Clueyard x = new Clueyard();
        check.argument("19: pass(0)", () -> x.pass(0));
        check.argument("19: pass(-1)", () -> x.pass(-1));
        check.argument("19: pass(2001)", () -> x.pass(2001));
        check.argument("19: pass(MAX)", () -> x.pass(Integer.MAX_VALUE));
        check.argument("19: pass(MIN)", () -> x.pass(Integer.MIN_VALUE));
        check.due("20: now()", x.now(), 0);
        check.due("19: pass(1)", x.pass(1), 1);
        check.due("20: now() then", x.now(), 1);
        for (int i = 1; i < 15; i++) {
            check.due("19: pass(2000)", x.pass(2000), 2000 * i + 1);
        }
        check.state("19: pass(2000) to 30001", () -> x.pass(2000));
        check.argument("19: pass(2001) to 30002", () -> x.pass(2001));
        check.due("19: pass(1999) to 30000", x.pass(1999), 30000);
        check.state("19: pass(1) to 30001", () -> x.pass(1));
        check.due("20: now() at the end", x.now(), 30000);
    }

    private static void publishing() {
        Clueyard x = new Clueyard();
        check.state("21: publish() without words", () -> x.publish());
        House.word(x, "aaa", 1);
        check.state("21: publish() without clues", () -> x.publish());
        House.readyClues(x, 0, 5);
        x.clue(0);
        x.edit(5, true);
        check.state("21: publish() with five READY clues", () -> x.publish());
        check.due("18: lastUsed(0) behind a publish that throws", x.lastUsed(0), Clueyard.NONE);
        check.bounds("22: clueOf(0, 0) behind it", () -> x.clueOf(0, 0));
        x.edit(5, true);
        x.fix(0, 1);
        check.state("21: publish() without a fill", () -> x.publish());
        x.fix(0, Clueyard.NONE);
        check.due("21: publish()", x.publish(), 0);
        for (int e = 0; e < 6; e++) {
            check.due("22: clueOf(0, " + e + ")", x.clueOf(0, e), e);
            check.due("18: lastUsed(" + e + ")", x.lastUsed(e), 0);
        }
        check.bounds("22: clueOf(0, 6)", () -> x.clueOf(0, 6));
        check.bounds("22: clueOf(0, -1)", () -> x.clueOf(0, -1));
        check.bounds("22: clueOf(1, 0)", () -> x.clueOf(1, 0));
        check.bounds("22: clueOf(-1, 0)", () -> x.clueOf(-1, 0));
    }

    private static void oneADay() {
        Clueyard x = new Clueyard();
        House.word(x, "aaa", 1);
        House.readyClues(x, 0, 18);
        x.pass(5);
        check.due("21: publish() in the hour 5", x.publish(), 0);
        check.state("21: publish() in the hour 5 again", () -> x.publish());
        x.pass(18);
        check.state("21: publish() in the hour 23", () -> x.publish());
        check.due("18: lastUsed(6)", x.lastUsed(6), Clueyard.NONE);
        x.pass(1);
        check.due("21: publish() in the hour 24", x.publish(), 1);
        check.state("21: publish() in the hour 24 again", () -> x.publish());
        check.due("22: clueOf(1, 0)", x.clueOf(1, 0), 6);
        check.due("18: lastUsed(11)", x.lastUsed(11), 1);
        check.due("18: lastUsed(12)", x.lastUsed(12), Clueyard.NONE);
        x.pass(47);
        check.due("21: publish() in the hour 71", x.publish(), 2);
        check.due("18: lastUsed(12) then", x.lastUsed(12), 2);
    }

    private static void aYear() {
        Clueyard x = new Clueyard();
        House.word(x, "aaa", 1);
        House.readyClues(x, 0, 6);
        House.until(x, 47);
        check.due("21: publish() on day 1", x.publish(), 0);
        House.until(x, 24 * 366 - 1);
        check.state("21: publish() on the 364th day behind", () -> x.publish());
        x.pass(1);
        check.due("21: publish() on the 365th day behind", x.publish(), 1);
        check.due("18: lastUsed(3)", x.lastUsed(3), 366);
        check.due("22: clueOf(0, 3)", x.clueOf(0, 3), 3);
        check.due("22: clueOf(1, 3)", x.clueOf(1, 3), 3);
    }

    private static void usedLongestAgo() {
        Clueyard x = new Clueyard();
        House.word(x, "aaa", 1);
        House.readyClues(x, 0, 12);
        x.publish();
        House.until(x, 24);
        x.publish();
        check.due("22: clueOf(1, 0)", x.clueOf(1, 0), 6);
        House.until(x, 24 * 365);
        x.publish();
        check.due("22: clueOf(2, 5)", x.clueOf(2, 5), 5);
        House.until(x, 24 * 800);
        House.readyClues(x, 0, 3);
        x.publish();
        int[] due = {12, 13, 14, 6, 7, 8};
        for (int e = 0; e < 6; e++) {
            check.due("22: clueOf(3, " + e + ")", x.clueOf(3, e), due[e]);
        }
        x.pass(24);
        x.publish();
        int[] dueThen = {9, 10, 11, 0, 1, 2};
        for (int e = 0; e < 6; e++) {
            check.due("22: clueOf(4, " + e + ")", x.clueOf(4, e), dueThen[e]);
            check.due("18: lastUsed of it", x.lastUsed(dueThen[e]), 801);
        }
    }

    private static void cluesOfTheEntries() {
        Clueyard x = new Clueyard();
        House.word(x, "abc", 0);
        House.word(x, "def", 0);
        House.word(x, "ghi", 0);
        House.word(x, "adg", 0);
        House.word(x, "beh", 0);
        House.word(x, "cfi", 0);
        x.fix(1, 1);
        for (int word = 5; word >= 0; word--) {
            House.readyClue(x, word);
        }
        House.readyClues(x, 2, 2);
        x.publish();
        for (int e = 0; e < 6; e++) {
            check.due("22: clueOf(0, " + e + ")", x.clueOf(0, e), 5 - e);
        }
        check.due("18: lastUsed(6)", x.lastUsed(6), Clueyard.NONE);
    }

    /** Words for the rows have clues, a word for a column has none: no clue is used by that. */
    private static void nothingChangesWithoutClues() {
        Clueyard x = new Clueyard();
        House.word(x, "abc", 0);
        House.word(x, "def", 0);
        House.word(x, "ghi", 0);
        House.word(x, "adg", 0);
        House.word(x, "beh", 0);
        House.word(x, "cfi", 0);
        x.fix(1, 1);
        for (int word = 0; word < 5; word++) {
            House.readyClue(x, word);
        }
        check.state("21: publish() without a clue for the last entry", () -> x.publish());
        for (int c = 0; c < 5; c++) {
            check.due("18: lastUsed(" + c + ")", x.lastUsed(c), Clueyard.NONE);
        }
        House.readyClue(x, 5);
        check.due("21: publish() then", x.publish(), 0);
        check.due("22: clueOf(0, 5)", x.clueOf(0, 5), 5);
    }

    /** A puzzle is the best fill as it was. */
    private static void puzzlesStay() {
        Clueyard x = House.withPuzzle();
        House.word(x, "bbb", 99);
        x.fix(0, 1);
        x.addSolver(0, 100);
        check.due("24: enter(0, 0, 0, 1) behind a new best fill", x.enter(0, 0, 0, 1), false);
        check.due("24: enter(0, 0, 0, 0) behind a new best fill", x.enter(0, 0, 0, 0), true);
        House.readyClues(x, 1, 6);
        x.pass(24);
        check.due("21: publish()", x.publish(), 1);
        check.due("24: enter(0, 1, 0, 1)", x.enter(0, 1, 0, 1), true);
        check.due("24: enter(0, 0, 1, 0)", x.enter(0, 0, 1, 0), true);
    }

    private static void mostPuzzles() {
        Clueyard x = new Clueyard();
        House.word(x, "aaa", 1);
        House.readyClues(x, 0, 60);
        for (int p = 0; p < 20; p++) {
            if (p == 10) {
                House.until(x, 24 * 400);
            }
            check.due("21: publish() number " + p, x.publish(), p);
            x.pass(24);
        }
        House.until(x, 24 * 800);
        check.state("21: publish(), one too many", () -> x.publish());
        check.due("18: lastUsed(0)", x.lastUsed(0), 400);
        check.due("22: clueOf(19, 5)", x.clueOf(19, 5), 59);
        check.bounds("22: clueOf(20, 0)", () -> x.clueOf(20, 0));
    }
}
