/** Short ways to bring a Clueyard into the state that a test wants; the letter 8 is written i here. */
final class House {
    private House() {
    }

    static void spelled(Clueyard x, String text) {
        x.clearSpelled();
        for (int i = 0; i < text.length(); i++) {
            x.spell(text.charAt(i) - 'a');
        }
    }

    static int word(Clueyard x, String text, int weight) {
        spelled(x, text);
        return x.addWord(weight);
    }

    static int readyClue(Clueyard x, int word) {
        int clue = x.clue(word);
        x.edit(clue, true);
        x.edit(clue, true);
        return clue;
    }

    static void readyClues(Clueyard x, int word, int count) {
        for (int i = 0; i < count; i++) {
            readyClue(x, word);
        }
    }

    /** Lets time pass up to an hour. */
    static void until(Clueyard x, int hour) {
        int now = x.now();
        while (now < hour) {
            now = x.pass(Math.min(2000, hour - now));
        }
    }

    /** A house with the one word aaa and the puzzle 0, in the hour 0; all its letters are 0. */
    static Clueyard withPuzzle() {
        Clueyard x = new Clueyard();
        word(x, "aaa", 1);
        readyClues(x, 0, 6);
        x.publish();
        return x;
    }

    /** The same with more puzzles, one a day; now is the given hour of the last one's day. */
    static Clueyard withPuzzles(int count, int hourOfDay) {
        Clueyard x = new Clueyard();
        word(x, "aaa", 1);
        until(x, hourOfDay);
        for (int p = 0; p < count; p++) {
            readyClues(x, 0, 6);
            x.publish();
            if (p + 1 < count) {
                x.pass(24);
            }
        }
        return x;
    }

    /** The most puzzles there can be, on the days 0 to 9 and 410 to 419; now is the day of the last one. */
    static Clueyard withMostPuzzles() {
        Clueyard x = new Clueyard();
        word(x, "aaa", 1);
        readyClues(x, 0, 60);
        for (int p = 0; p < 20; p++) {
            until(x, p < 10 ? 24 * p : 24 * (p + 400));
            x.publish();
        }
        return x;
    }

    static void enterCells(Clueyard x, int solver, int puzzle, int from, int to) {
        for (int cell = from; cell <= to; cell++) {
            x.enter(solver, puzzle, cell, 0);
        }
    }
}
