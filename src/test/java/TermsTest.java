/**
 * The edges that the sentences under "Terms" name, up to hours and puzzles: one test for each sentence,
 * with the sentence above it.
 */
public final class TermsTest {
    private static final Check check = new Check();

    public static void main(String[] args) {
        lettersFirstAndLast();
        pairsOfChars();
        textEmptyAndFull();
        textStays();
        noWordsAndMostWords();
        wordsOfThreeLetters();
        noTwoWordsTheSame();
        leastAndMostWeight();
        orderOfWords();
        cellsRowByRow();
        fixedOnesAsTheyAre();
        oneWordSixTimes();
        leastAndMostFillWeight();
        bestOfSeveral();
        noCluesAndMostClues();
        stages();
        firstAndLastHour();
        todayRoundedDown();
        noPuzzlesAndMostPuzzles();
        onePuzzleADay();
        sixEntriesWithClues();
        theYear();
        longestAgo();
        usedTodayByAnotherEntry();
        check.end();
    }

    // "There are the letters 0 to 8."
    private static void lettersFirstAndLast() {
        int[] ends = {0, 8};
        for (int letter : ends) {
            Clueyard x = new Clueyard();
            check.due("fix(4, " + letter + ")", x.fix(4, letter), Clueyard.NONE);
            x.spell(letter);
            x.spell(letter);
            x.insert(letter);
            check.due("addWord(0) of the letter " + letter, x.addWord(0), 0);
            for (int cell = 0; cell < 9; cell++) {
                check.due("fillAt(" + cell + ") of the letter " + letter, x.fillAt(cell), letter);
            }
            House.readyClues(x, 0, 6);
            x.publish();
            x.addSolver(0, 5);
            check.due("enter(0, 0, 0, " + letter + ")", x.enter(0, 0, 0, letter), true);
            check.due("enter(0, 0, 1, " + (8 - letter) + ")", x.enter(0, 0, 1, 8 - letter), false);
            check.due("help(0, 0, 1) of the letter " + letter, x.help(0, 0, 1), letter);
        }
    }

    // "The letters 0 to 7 are a to h; the letter 8 is the code point 0x1D11E, which is a pair of chars in
    // a text (the high surrogate first)."
    private static void pairsOfChars() {
        String[] texts = {"i", "ai", "ia", "hi", "aai", "aia", "iaa", "iia", "iai", "aii", "iii", "ahb"};
        for (String text : texts) {
            Clueyard spelled = new Clueyard();
            House.spelled(spelled, text);
            isText(spelled, text);
            Clueyard inserted = new Clueyard();
            for (int i = text.length() - 1; i >= 0; i--) {
                inserted.insert(text.charAt(i) - 'a');
            }
            isText(inserted, text);
            Clueyard turned = new Clueyard();
            House.spelled(turned, new StringBuilder(text).reverse().toString());
            check.due("turn() of " + text, turned.turn(), text.length());
            isText(turned, text);
        }
    }

    /** The sign i in the text stands for the letter 8. */
    private static void isText(Clueyard x, String text) {
        String chars = text.replace("i", new String(Character.toChars(0x1D11E)));
        for (int place = 0; place < chars.length(); place++) {
            check.due("charAt(" + place + ") of " + text, x.charAt(place), chars.charAt(place));
        }
        check.element("charAt behind " + text, () -> x.charAt(chars.length()));
        check.element("charAt ahead of " + text, () -> x.charAt(-1));
    }

    // "One text is spelled at a time, empty at first, of 3 letters at most"
    private static void textEmptyAndFull() {
        Clueyard x = new Clueyard();
        check.element("charAt(0) at first", () -> x.charAt(0));
        check.due("turn() at first", x.turn(), 0);
        check.due("clearSpelled() at first", x.clearSpelled(), 0);
        for (int letter = 0; letter <= 8; letter++) {
            int width = letter == 8 ? 2 : 1;
            int used = letter;
            for (int length = 1; length <= 3; length++) {
                int chars = length % 2 == 1 ? x.spell(letter) : x.insert(letter);
                check.due("letter " + letter + ", length " + length, chars, width * length);
                check.due("turn() then", x.turn(), length);
            }
            check.state("spell of a fourth letter", () -> x.spell(used));
            check.state("insert of a fourth letter", () -> x.insert(used));
            check.due("charAt of the last char", x.charAt(3 * width - 1), letter == 8 ? 0xDD1E : 'a' + letter);
            check.element("charAt behind the last char", () -> x.charAt(3 * width));
            check.due("clearSpelled() of the full text", x.clearSpelled(), 3);
            check.element("charAt(0) of the emptied text", () -> x.charAt(0));
        }
    }

    // "it stays when it is used"
    private static void textStays() {
        Clueyard x = new Clueyard();
        House.spelled(x, "iah");
        x.addWord(0);
        isText(x, "iah");
        x.beginning();
        isText(x, "iah");
        check.state("addWord(0) of the same", () -> x.addWord(0));
        isText(x, "iah");
        check.argument("addWord(100) of the same", () -> x.addWord(100));
        isText(x, "iah");
        check.due("clearSpelled() of the word", x.clearSpelled(), 3);
        check.due("beginning() with the emptied text", x.beginning(), 1);
        check.due("wordAt(0) with the emptied text", x.wordAt(0), 0);
    }

    // "Words are numbered from 0, at most 30"
    private static void noWordsAndMostWords() {
        Clueyard none = Start.EMPTY.make();
        check.due("wordAt(0) of no words", none.wordAt(0), Clueyard.NONE);
        check.due("beginning() of no words", none.beginning(), 0);
        check.due("fillWeight() of no words", none.fillWeight(), Clueyard.NONE);
        check.due("fillWeightByAll() of no words", none.fillWeightByAll(), Clueyard.NONE);
        check.due("fills() of no words", none.fills(), 0);
        Clueyard x = Start.FULL_WORDS.make();
        check.state("addWord(0), one too many", () -> x.addWord(0));
        for (int w = 0; w < 30; w++) {
            check.due("wordAt(" + w + ") of all", x.wordAt(w), w);
        }
        check.due("wordAt(30) of all", x.wordAt(30), Clueyard.NONE);
        x.clearSpelled();
        check.due("beginning() with the empty text", x.beginning(), 30);
        x.spell(8);
        check.due("beginning() with the letter 8", x.beginning(), 1);
        x.clearSpelled();
        x.spell(2);
        check.due("beginning() with c", x.beginning(), 9);
        check.due("fillWeight() of all", x.fillWeight(), x.fillWeightByAll());
    }

    // "a word is a text of 3 letters"
    private static void wordsOfThreeLetters() {
        String[] tooShort = {"", "a", "i", "ai", "ii"};
        for (String text : tooShort) {
            Clueyard x = new Clueyard();
            House.spelled(x, text);
            check.state("addWord(0) of " + text, () -> x.addWord(0));
            check.due("wordAt(0) then", x.wordAt(0), Clueyard.NONE);
        }
        String[] longEnough = {"abc", "abi", "iii"};
        for (String text : longEnough) {
            Clueyard x = new Clueyard();
            check.due("addWord(0) of " + text, House.word(x, text, 0), 0);
        }
    }

    // "no two words the same"
    private static void noTwoWordsTheSame() {
        Clueyard x = new Clueyard();
        String[] texts = {"aai", "aia", "iaa", "aaa", "iii", "aah"};
        for (int w = 0; w < texts.length; w++) {
            check.due("addWord of " + texts[w], House.word(x, texts[w], w), w);
        }
        for (int w = 0; w < texts.length; w++) {
            House.spelled(x, texts[w]);
            check.state("addWord(0) of " + texts[w] + " again", () -> x.addWord(0));
            check.due("its weight then", x.setWeight(w, w), w);
            check.due("beginning() with " + texts[w], x.beginning(), 1);
        }
        check.due("wordAt(6)", x.wordAt(6), Clueyard.NONE);
    }

    // "and has a weight, 0 to 99"
    private static void leastAndMostWeight() {
        Clueyard x = new Clueyard();
        House.spelled(x, "aaa");
        check.argument("addWord(-1)", () -> x.addWord(-1));
        check.argument("addWord(100)", () -> x.addWord(100));
        check.due("addWord(0)", x.addWord(0), 0);
        check.argument("setWeight(0, -1)", () -> x.setWeight(0, -1));
        check.argument("setWeight(0, 100)", () -> x.setWeight(0, 100));
        check.due("setWeight(0, 99)", x.setWeight(0, 99), 0);
        check.due("setWeight(0, 0)", x.setWeight(0, 0), 99);
        House.spelled(x, "bbb");
        check.due("addWord(99)", x.addWord(99), 1);
        check.due("setWeight(1, 1)", x.setWeight(1, 1), 99);
    }

    // "The order of words is that of their texts, char by char by the numbers of these chars."
    private static void orderOfWords() {
        String[] sorted = {"aaa", "aah", "aai", "aba", "aia", "aii", "haa", "hii", "iaa", "iai", "iha", "iia", "iii"};
        Clueyard rising = new Clueyard();
        Clueyard falling = new Clueyard();
        Clueyard mixed = new Clueyard();
        int count = sorted.length;
        int last = count - 1;
        for (int i = 0; i <= last; i++) {
            House.word(rising, sorted[i], 0);
            House.word(falling, sorted[last - i], 0);
            House.word(mixed, sorted[(5 * i + 4) % count], 0);
        }
        for (int place = 0; place <= last; place++) {
            check.due("wordAt(" + place + ") of rising words", rising.wordAt(place), place);
            check.due("wordAt(" + place + ") of falling words", falling.wordAt(place), last - place);
            int word = mixed.wordAt(place);
            check.due("wordAt(" + place + ") of mixed words", (5 * word + 4) % count, place);
        }
    }

    // "A square has 9 cells, numbered from 0 row by row; a letter can be fixed in a cell."
    private static void cellsRowByRow() {
        Clueyard x = Start.SIX_WORDS.make();
        String fill = "abcdefgha";
        for (int cell = 0; cell < 9; cell++) {
            check.due("fillAt(" + cell + ")", x.fillAt(cell), fill.charAt(cell) - 'a');
        }
        x.fix(1, Clueyard.NONE);
        String turned = "adgbehcfa";
        for (int cell = 1; cell < 8; cell++) {
            if (fill.charAt(cell) != turned.charAt(cell)) {
                x.fix(cell, turned.charAt(cell) - 'a');
                check.due("fillAt(2) with the cell " + cell + " fixed", x.fillAt(2), 'g' - 'a');
                check.due("fills() with the cell " + cell + " fixed", x.fills(), 1);
                x.fix(cell, Clueyard.NONE);
            }
        }
        check.due("fills() with none fixed", x.fills(), 2);
    }

    // "A fill gives each cell a letter, fixed ones as they are"
    private static void fixedOnesAsTheyAre() {
        Clueyard x = Start.SIX_WORDS.make();
        String fill = "abcdefgha";
        for (int cell = 0; cell < 9; cell++) {
            x.fix(cell, fill.charAt(cell) - 'a');
        }
        check.due("fills() with all cells fixed", x.fills(), 1);
        check.due("fillWeight() with all cells fixed", x.fillWeight(), 15);
        check.due("fillWeightByAll() with all cells fixed", x.fillWeightByAll(), 15);
        for (int cell = 0; cell < 9; cell++) {
            x.fix(cell, 8);
            check.due("fills() with the cell " + cell + " fixed otherwise", x.fills(), 0);
            check.due("fillWeight() then", x.fillWeight(), Clueyard.NONE);
            check.due("fillWeightByAll() then", x.fillWeightByAll(), Clueyard.NONE);
            check.element("fillAt(0) then", () -> x.fillAt(0));
            x.fix(cell, fill.charAt(cell) - 'a');
        }
        check.due("fills() as before", x.fills(), 1);
    }

    // "so that the three rows ... and the three columns ... are words (the same word may be there several
    // times)"
    private static void oneWordSixTimes() {
        Clueyard x = new Clueyard();
        House.word(x, "iii", 7);
        check.due("fills() of one word", x.fills(), 1);
        check.due("fillWeight() of one word", x.fillWeight(), 42);
        check.due("fillWeightByAll() of one word", x.fillWeightByAll(), 42);
        Clueyard y = new Clueyard();
        House.word(y, "aab", 7);
        check.due("fills() of one word whose columns are none", y.fills(), 0);
        check.due("fillWeight() of it", y.fillWeight(), Clueyard.NONE);
        check.due("fillWeightByAll() of it", y.fillWeightByAll(), Clueyard.NONE);
    }

    // "Its weight is the sum of the weights of these six."
    private static void leastAndMostFillWeight() {
        Clueyard x = Start.ONE_WORD.make();
        x.setWeight(0, 0);
        check.due("fillWeight() of the least", x.fillWeight(), 0);
        check.due("fillWeightByAll() of the least", x.fillWeightByAll(), 0);
        check.due("fillAt(0) of the least", x.fillAt(0), 0);
        x.setWeight(0, 99);
        check.due("fillWeight() of the most", x.fillWeight(), 594);
        check.due("fillWeightByAll() of the most", x.fillWeightByAll(), 594);
        Clueyard y = Start.SIX_WORDS.make();
        int sum = 15;
        for (int w = 0; w < 6; w++) {
            y.setWeight(w, 99);
            sum += 99 - w;
            check.due("fillWeight() with the word " + w + " heavier", y.fillWeight(), sum);
            check.due("fillWeightByAll() with the word " + w + " heavier", y.fillWeightByAll(), sum);
        }
    }

    // "The best fill is the one with the greatest weight; of several the one whose first row comes first
    // in the order of words, then the second one, then the third one."
    private static void bestOfSeveral() {
        Clueyard x = Start.SIX_WORDS.make();
        x.fix(1, Clueyard.NONE);
        check.due("fills() of a fill and the one that is turned", x.fills(), 2);
        check.due("fillAt(1) of the first row abc", x.fillAt(1), 1);
        x.setWeight(0, 99);
        check.due("fillAt(1) with a heavier word of both", x.fillAt(1), 1);
        Clueyard y = new Clueyard();
        House.word(y, "iii", 5);
        House.word(y, "hhh", 5);
        check.due("fillAt(0) of the same weights", y.fillAt(0), 7);
        y.setWeight(1, 4);
        check.due("fillAt(0) with one less", y.fillAt(0), 8);
        y.setWeight(1, 6);
        check.due("fillAt(0) with one more", y.fillAt(0), 7);
    }

    // "Clues are numbered from 0, at most 60."
    private static void noCluesAndMostClues() {
        Clueyard none = Start.ONE_WORD.make();
        check.bounds("edit(0, true) of no clues", () -> none.edit(0, true));
        check.bounds("lastUsed(0) of no clues", () -> none.lastUsed(0));
        for (int c = 0; c < 60; c++) {
            check.due("clue(0) number " + c, none.clue(0), c);
        }
        check.state("clue(0), one too many", () -> none.clue(0));
        check.due("edit(59, true)", none.edit(59, true), 1);
        check.bounds("edit(60, true)", () -> none.edit(60, true));
        check.due("lastUsed(59)", none.lastUsed(59), Clueyard.NONE);
    }

    // "its stage is 0 at first, becomes 1 more with each editor who finds it fine, up to 2, and 0 again
    // with one who does not"
    private static void stages() {
        Clueyard x = Start.ONE_WORD.make();
        House.readyClues(x, 0, 5);
        x.clue(0);
        check.due("edit(5, false) of the stage 0", x.edit(5, false), 0);
        check.state("publish() with a clue of the stage 0", () -> x.publish());
        check.due("edit(5, true) of the stage 0", x.edit(5, true), 1);
        check.state("publish() with a clue of the stage 1", () -> x.publish());
        check.due("edit(5, false) of the stage 1", x.edit(5, false), 0);
        check.due("edit(5, true) of the stage 0 again", x.edit(5, true), 1);
        check.due("edit(5, true) of the stage 1", x.edit(5, true), 2);
        check.state("edit(5, true) of a READY clue", () -> x.edit(5, true));
        check.state("edit(5, false) of a READY clue", () -> x.edit(5, false));
        check.due("publish() with six READY clues", x.publish(), 0);
        check.state("edit(5, false) of a used clue", () -> x.edit(5, false));
    }

    // "Now is an hour, 0 at first" (and 30000 at most)
    private static void firstAndLastHour() {
        Clueyard x = new Clueyard();
        check.due("now() at first", x.now(), 0);
        for (int i = 1; i <= 15; i++) {
            check.due("pass(2000)", x.pass(2000), 2000 * i);
        }
        check.state("pass(1) at the end", () -> x.pass(1));
        check.due("now() at the end", x.now(), 30000);
        int[] left = {1, 2, 1999, 2000};
        for (int hours : left) {
            Clueyard y = new Clueyard();
            House.until(y, 30000 - hours);
            if (hours < 2000) {
                check.state("pass of one too many than " + hours, () -> y.pass(hours + 1));
            }
            check.due("pass(" + hours + ") to the end", y.pass(hours), 30000);
        }
    }

    // "today is now divided by 24, rounded down"
    private static void todayRoundedDown() {
        int[] hours = {0, 1, 23, 24, 25, 47, 48, 24 * 365 - 1, 24 * 365, 29999, 30000};
        int[] days = {0, 0, 0, 1, 1, 1, 2, 364, 365, 1249, 1250};
        for (int i = 0; i < hours.length; i++) {
            Clueyard x = Start.ONE_WORD.make();
            House.readyClues(x, 0, 6);
            House.until(x, hours[i]);
            x.publish();
            check.due("lastUsed(0) in the hour " + hours[i], x.lastUsed(0), days[i]);
            check.due("lastUsed(5) in the hour " + hours[i], x.lastUsed(5), days[i]);
        }
    }

    // "Puzzles are numbered from 0, at most 20"
    private static void noPuzzlesAndMostPuzzles() {
        Clueyard none = Start.SIX_WORDS.make();
        none.addSolver(0, 5);
        check.bounds("clueOf(0, 0) of no puzzles", () -> none.clueOf(0, 0));
        check.bounds("open(0) of no puzzles", () -> none.open(0));
        check.bounds("solvedAt(0, 0) of no puzzles", () -> none.solvedAt(0, 0));
        check.bounds("judge(0, 0) of no puzzles", () -> none.judge(0, 0));
        check.bounds("enter(0, 0, 0, 0) of no puzzles", () -> none.enter(0, 0, 0, 0));
        check.bounds("help(0, 0, 0) of no puzzles", () -> none.help(0, 0, 0));
        check.due("publish() of the first", none.publish(), 0);
        Clueyard x = new Clueyard();
        House.word(x, "aaa", 1);
        House.readyClues(x, 0, 60);
        for (int p = 0; p < 20; p++) {
            House.until(x, p < 10 ? 24 * p : 24 * (p + 355));
            check.due("publish() number " + p, x.publish(), p);
        }
        House.until(x, 24 * 900);
        check.state("publish(), one too many", () -> x.publish());
        check.due("lastUsed(0) then", x.lastUsed(0), 365);
        check.bounds("open(20)", () -> x.open(20));
        check.due("open(19)", x.open(19), 0);
    }

    // "on a day one can be published"
    private static void onePuzzleADay() {
        int[] first = {0, 12, 23};
        for (int hour : first) {
            Clueyard x = Start.ONE_WORD.make();
            House.readyClues(x, 0, 18);
            House.until(x, hour);
            check.due("publish() in the hour " + hour, x.publish(), 0);
            check.state("publish() in the same hour", () -> x.publish());
            if (hour < 23) {
                House.until(x, 23);
                check.state("publish() in the last hour of the day", () -> x.publish());
            }
            x.pass(1);
            check.due("publish() in the first hour of the next day", x.publish(), 1);
            House.until(x, 47);
            check.state("publish() in the last hour of that day", () -> x.publish());
        }
        Clueyard refused = Start.FIVE_READY.make();
        check.state("publish() with too few clues", () -> refused.publish());
        refused.edit(5, true);
        check.due("publish() on the same day, as none was published", refused.publish(), 0);
    }

    // "with a clue for each entry, by rising entries: of the READY clues of its word"
    private static void sixEntriesWithClues() {
        for (int missing = 0; missing < 6; missing++) {
            Clueyard x = new Clueyard();
            String[] texts = {"abc", "def", "gha", "adg", "beh", "cfa"};
            for (String text : texts) {
                House.word(x, text, 0);
            }
            x.fix(1, 1);
            for (int w = 0; w < 6; w++) {
                House.readyClues(x, w, w == missing ? 0 : 2);
            }
            check.state("publish() without a clue for the entry " + missing, () -> x.publish());
            for (int c = 0; c < 10; c++) {
                check.due("lastUsed(" + c + ") then", x.lastUsed(c), Clueyard.NONE);
            }
            check.bounds("open(0) then", () -> x.open(0));
            House.readyClue(x, missing);
            check.due("publish() with it", x.publish(), 0);
            for (int e = 0; e < 6; e++) {
                int due = e == missing ? 10 : e < missing ? 2 * e : 2 * e - 2;
                check.due("clueOf(0, " + e + ")", x.clueOf(0, e), due);
            }
        }
    }

    // "that were not used today or in the 364 days ahead of it"
    private static void theYear() {
        int[] hoursOfDay = {0, 23};
        for (int used : hoursOfDay) {
            for (int anew : hoursOfDay) {
                Clueyard x = Start.ONE_WORD.make();
                House.readyClues(x, 0, 6);
                House.until(x, 240 + used);
                x.publish();
                House.until(x, 24 * (10 + 364) + anew);
                check.state("publish() 364 days later", () -> x.publish());
                House.until(x, 24 * (10 + 365) + anew);
                check.due("publish() 365 days later", x.publish(), 1);
                House.until(x, 24 * (10 + 365 + 364) + anew);
                check.state("publish() 364 days after that", () -> x.publish());
                House.until(x, 24 * (10 + 365 + 365) + anew);
                check.due("publish() 365 days after that", x.publish(), 2);
                check.due("lastUsed(5) then", x.lastUsed(5), 740);
            }
        }
    }

    // "the one that was used longest ago, a clue that was never used ahead of all others; of several the
    // lowest one"
    private static void longestAgo() {
        Clueyard x = Start.ONE_WORD.make();
        House.readyClues(x, 0, 12);
        x.publish();
        x.pass(24);
        x.publish();
        House.until(x, 24 * 366);
        check.due("publish() with all clues rested", x.publish(), 2);
        clues(x, 2, 0, 1, 2, 3, 4, 5);
        House.until(x, 24 * 800);
        House.readyClues(x, 0, 1);
        x.publish();
        clues(x, 3, 12, 6, 7, 8, 9, 10);
        x.pass(24);
        x.publish();
        clues(x, 4, 11, 0, 1, 2, 3, 4);
    }

    private static void clues(Clueyard x, int puzzle, int... due) {
        for (int e = 0; e < 6; e++) {
            check.due("clueOf(" + puzzle + ", " + e + ")", x.clueOf(puzzle, e), due[e]);
        }
    }

    // "With that it is used today."
    private static void usedTodayByAnotherEntry() {
        Clueyard x = Start.FIVE_READY.make();
        check.state("publish() with a clue too few for six entries of one word", () -> x.publish());
        x.edit(5, true);
        check.due("publish() with six", x.publish(), 0);
        clues(x, 0, 0, 1, 2, 3, 4, 5);
        Clueyard y = new Clueyard();
        House.word(y, "aba", 1);
        House.word(y, "bab", 1);
        y.fix(0, 0);
        House.readyClues(y, 1, 2);
        House.readyClues(y, 0, 4);
        check.due("publish() of two words that take turns", y.publish(), 0);
        clues(y, 0, 2, 0, 3, 4, 1, 5);
    }
}
