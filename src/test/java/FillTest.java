/** Promises 11 to 15: fills. */
public final class FillTest {
    private static final Check check = new Check();

    public static void main(String[] args) {
        fixing();
        weightsAndFixedLetters();
        fillAtFirst();
        ties();
        columnsBreakTies();
        rowsWithoutColumns();
        eachColumnMustBeAWord();
        wordsThatAreNot();
        manyWords();
        thirtyWords();
        check.end();
    }

    private static void fixing() {
        Clueyard x = new Clueyard();
        check.due("11: fix(0, 8)", x.fix(0, 8), Clueyard.NONE);
        check.due("11: fix(0, 0)", x.fix(0, 0), 8);
        check.due("11: fix(8, 3)", x.fix(8, 3), Clueyard.NONE);
        check.bounds("11: fix(9, 0)", () -> x.fix(9, 0));
        check.bounds("11: fix(-1, 0)", () -> x.fix(-1, 0));
        check.bounds("11: fix(0, 9)", () -> x.fix(0, 9));
        check.bounds("11: fix(0, -2)", () -> x.fix(0, -2));
        check.bounds("11: fix(9, 9)", () -> x.fix(9, 9));
        check.due("11: fix(0, NONE)", x.fix(0, Clueyard.NONE), 0);
        check.due("11: fix(0, NONE) again", x.fix(0, Clueyard.NONE), Clueyard.NONE);
        check.due("11: fix(8, NONE)", x.fix(8, Clueyard.NONE), 3);
    }

    private static void weightsAndFixedLetters() {
        Clueyard x = new Clueyard();
        House.word(x, "aaa", 5);
        weigh(x, 30, 1);
        House.word(x, "bbb", 6);
        weigh(x, 36, 2);
        letters(x, "bbbbbbbbb");
        x.fix(7, 0);
        weigh(x, 30, 1);
        letters(x, "aaaaaaaaa");
        x.fix(0, 1);
        weigh(x, Clueyard.NONE, 0);
        check.element("15: fillAt(0) of no fill", () -> x.fillAt(0));
        check.bounds("15: fillAt(9) of no fill", () -> x.fillAt(9));
        check.bounds("15: fillAt(-1) of no fill", () -> x.fillAt(-1));
        x.fix(7, Clueyard.NONE);
        weigh(x, 36, 1);
        check.bounds("15: fillAt(9)", () -> x.fillAt(9));
        check.bounds("15: fillAt(-1)", () -> x.fillAt(-1));
        x.setWeight(1, 0);
        weigh(x, 0, 1);
        letters(x, "bbbbbbbbb");
        x.fix(4, 5);
        weigh(x, Clueyard.NONE, 0);
    }

    /** Each call finds the fill by itself, with no other call ahead of it. */
    private static void fillAtFirst() {
        Clueyard x = new Clueyard();
        House.word(x, "aaa", 5);
        check.due("15: fillAt(8)", x.fillAt(8), 0);
        House.word(x, "iii", 6);
        check.due("15: fillAt(8) with a heavier word", x.fillAt(8), 8);
        x.setWeight(0, 7);
        check.due("15: fillAt(0) with other weights", x.fillAt(0), 0);
        x.fix(3, 8);
        check.due("15: fillAt(0) with a fixed letter", x.fillAt(0), 8);
        x.fix(4, 0);
        check.element("15: fillAt(0) with two fixed letters", () -> x.fillAt(0));
        check.due("13: fillWeightByAll() then", x.fillWeightByAll(), Clueyard.NONE);
        x.fix(4, Clueyard.NONE);
        check.due("14: fills() then", x.fills(), 1);
    }

    private static void ties() {
        Clueyard x = new Clueyard();
        House.word(x, "iii", 4);
        House.word(x, "hhh", 4);
        weigh(x, 24, 2);
        letters(x, "hhhhhhhhh");
        House.word(x, "aaa", 4);
        weigh(x, 24, 3);
        letters(x, "aaaaaaaaa");
        x.fix(0, 8);
        letters(x, "iiiiiiiii");
    }

    /** Fills with the same first row, that differ in the second or in the third row alone. */
    private static void columnsBreakTies() {
        Clueyard x = new Clueyard();
        House.word(x, "aab", 0);
        House.word(x, "aaa", 0);
        House.word(x, "baa", 0);
        House.word(x, "aba", 0);
        weigh(x, 0, 34);
        letters(x, "aaaaaaaaa");
        x.fix(8, 1);
        weigh(x, 0, 7);
        letters(x, "aaaaaaaab");
        x.fix(8, Clueyard.NONE);
        x.fix(4, 1);
        weigh(x, 0, 7);
        letters(x, "aaaabaaaa");
        x.fix(6, 1);
        letters(x, "aaaababaa");
    }

    /** The rows are words, but not all columns; a column may be a word that is no row. */
    private static void rowsWithoutColumns() {
        Clueyard x = new Clueyard();
        House.word(x, "abi", 10);
        House.word(x, "bac", 20);
        House.word(x, "icb", 30);
        weigh(x, 120, 1);
        letters(x, "abibacicb");
        Clueyard y = new Clueyard();
        House.word(y, "abc", 10);
        House.word(y, "def", 20);
        House.word(y, "gha", 30);
        weigh(y, Clueyard.NONE, 0);
        House.word(y, "adg", 1);
        House.word(y, "beh", 2);
        weigh(y, Clueyard.NONE, 0);
        House.word(y, "cfa", 3);
        weigh(y, 66, 2);
        letters(y, "abcdefgha");
    }

    /** The word with a b can stand in one row alone, as two would make a column that is no word. */
    private static void eachColumnMustBeAWord() {
        String[] texts = {"baa", "aba", "aab"};
        for (int column = 0; column < 3; column++) {
            Clueyard x = new Clueyard();
            House.word(x, "aaa", 0);
            House.word(x, texts[column], 99);
            weigh(x, 198, 2);
            check.due("15: fillAt(" + 4 * column + ")", x.fillAt(4 * column), 1);
        }
    }

    /** The columns are words, but the first row, aaa, is none. */
    private static void wordsThatAreNot() {
        Clueyard x = new Clueyard();
        House.word(x, "bbb", 1);
        House.word(x, "abb", 99);
        weigh(x, 202, 2);
        letters(x, "abbbbbbbb");
    }

    private static void thirtyWords() {
        Clueyard x = new Clueyard();
        for (int w = 0; w < 30; w++) {
            x.clearSpelled();
            x.spell(w / 9);
            x.spell(w / 3 % 3);
            x.spell(w % 3);
            x.addWord(w);
        }
        x.fix(0, 3);
        x.setWeight(29, 99);
        weigh(x, 266, 729);
        letters(x, "dacaccccc");
    }

    private static void manyWords() {
        Clueyard x = new Clueyard();
        for (int w = 0; w < 27; w++) {
            x.clearSpelled();
            x.spell(w / 9);
            x.spell(w / 3 % 3);
            x.spell(w % 3);
            x.addWord(w == 26 ? 99 : 98);
        }
        weigh(x, 594, 19683);
        letters(x, "ccccccccc");
        x.setWeight(26, 98);
        weigh(x, 588, 19683);
        letters(x, "aaaaaaaaa");
    }

    private static void weigh(Clueyard x, int weight, int fills) {
        check.due("12: fillWeight()", x.fillWeight(), weight);
        check.due("13: fillWeightByAll()", x.fillWeightByAll(), weight);
        check.due("14: fills()", x.fills(), fills);
    }

    private static void letters(Clueyard x, String text) {
        for (int cell = 0; cell < 9; cell++) {
            check.due("15: fillAt(" + cell + ") of " + text, x.fillAt(cell), text.charAt(cell) - 'a');
        }
    }
}
