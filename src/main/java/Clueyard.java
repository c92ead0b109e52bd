import java.util.Arrays;
import java.util.NoSuchElementException;

/**
 * A crossword house: squares of three by three letters are filled by words, published with clues,
 * and solved by solvers in their own time zones.
 */
public final class Clueyard {
    /** There is none. */
    public static final int NONE = -1;

    private static final int SIDE = 3;
    private static final int CELLS = 9;
    private static final int ALL_CELLS = 511;
    private static final int ENTRIES = 6;

    private static final int LETTERS = 9;
    private static final int PAIR_LETTER = 8;
    private static final int FIRST_CHAR = 97;
    private static final int HIGH_SURROGATE = 0xD834;
    private static final int LOW_SURROGATE = 0xDD1E;

    private static final int EMPTY_CODE = 1;
    private static final int CODES = 1458;
    private static final int MOST_WORDS = 30;
    private static final int MOST_WEIGHT = 99;

    private static final int MOST_CLUES = 60;
    private static final int READY = 2;
    private static final int DAYS_OF_REST = 364;

    private static final int HOURS_OF_DAY = 24;
    private static final int MOST_PASSING = 2000;
    private static final int LAST_HOUR = 30000;
    private static final int MOST_PUZZLES = 20;

    private static final int MOST_SOLVERS = 6;
    private static final int LEAST_OFFSET = -12;
    private static final int MOST_OFFSET = 14;
    private static final int MOST_COINS = 1000;
    private static final int FIRST_COST = 5;
    private static final int MOST_COST = 40;
    private static final int FIRST_DAY = -1;
    private static final int DAYS = 1252;

    // Each cell of each puzzle becomes right once for a solver, and each entry is judged wrong once.
    private static final int MOST_EVENTS = 1200;

    private final Spelled spelled = new Spelled();
    private final Words words = new Words();
    private final Square square = new Square();
    private final Clues clues = new Clues();
    private final Puzzle[] puzzles = new Puzzle[MOST_PUZZLES];
    private final Solver[] solvers = new Solver[MOST_SOLVERS];
    private final Events events = new Events();
    private final Progress replayed = new Progress();
    private final int[] replayedOpen = new int[MOST_PUZZLES];
    private int puzzleCount;
    private int solverCount;
    private int hour;

    public Clueyard() {
        for (int p = 0; p < MOST_PUZZLES; p++) {
            puzzles[p] = new Puzzle();
        }
        for (int s = 0; s < MOST_SOLVERS; s++) {
            solvers[s] = new Solver();
        }
    }

    // ---- the spelled text

    public int spell(int letter) throws IndexOutOfBoundsException, IllegalStateException {
        needIndex(letter, LETTERS);
        needRoomForLetter();
        spelled.putAtEnd(letter);
        return spelled.charCount();
    }

    public int insert(int letter) throws IndexOutOfBoundsException, IllegalStateException {
        needIndex(letter, LETTERS);
        needRoomForLetter();
        spelled.putAtBeginning(letter);
        return spelled.charCount();
    }

    public int turn() {
        spelled.reverse();
        return spelled.letterCount();
    }

    public int clearSpelled() {
        int before = spelled.letterCount();
        spelled.empty();
        return before;
    }

    public char charAt(int place) throws NoSuchElementException {
        int found = spelled.charOrNone(place);
        if (found == NONE) {
            throw new NoSuchElementException("there is no such char");
        }
        return (char) found;
    }

    // ---- words

    public int addWord(int weight) throws IllegalArgumentException, IllegalStateException {
        needRange(weight, 0, MOST_WEIGHT);
        if (!spelled.isFull() || words.beginningWith(spelled.code()) > 0 || words.count() >= MOST_WORDS) {
            throw new IllegalStateException("the text cannot be added as a word");
        }
        return words.add(spelled.code(), weight);
    }

    public int setWeight(int word, int weight) throws IndexOutOfBoundsException, IllegalArgumentException {
        needIndex(word, words.count());
        needRange(weight, 0, MOST_WEIGHT);
        int before = words.weight(word);
        words.weigh(word, weight);
        return before;
    }

    public int wordAt(int place) {
        return isIndex(place, words.count()) ? words.inOrder(place) : NONE;
    }

    public int beginning() {
        return words.beginningWith(spelled.code());
    }

    // ---- fills

    public int fix(int cell, int letter) throws IndexOutOfBoundsException {
        needIndex(cell, CELLS);
        if (letter != NONE) {
            needIndex(letter, LETTERS);
        }
        int before = square.fixedLetter(cell);
        square.setFixed(cell, letter);
        return before;
    }

    public int fillWeight() {
        square.search(words);
        return square.bestWeight();
    }

    public int fillWeightByAll() {
        return square.greatestWeightOfAll(words);
    }

    public int fills() {
        square.search(words);
        return square.foundCount();
    }

    public int fillAt(int cell) throws IndexOutOfBoundsException, NoSuchElementException {
        needIndex(cell, CELLS);
        square.search(words);
        if (square.bestWeight() == NONE) {
            throw new NoSuchElementException("there is no fill");
        }
        return square.bestLetter(words, cell);
    }

    // ---- clues, hours, puzzles

    public int clue(int word) throws IndexOutOfBoundsException, IllegalStateException {
        needIndex(word, words.count());
        if (clues.count() >= MOST_CLUES) {
            throw new IllegalStateException("there are no more clues");
        }
        return clues.add(word);
    }

    public int edit(int clue, boolean isFine) throws IndexOutOfBoundsException, IllegalStateException {
        needIndex(clue, clues.count());
        if (clues.isReady(clue)) {
            throw new IllegalStateException("the clue is ready");
        }
        return clues.look(clue, isFine);
    }

    public int lastUsed(int clue) throws IndexOutOfBoundsException {
        needIndex(clue, clues.count());
        return clues.lastDay(clue);
    }

    public int pass(int hours) throws IllegalArgumentException, IllegalStateException {
        needRange(hours, 1, MOST_PASSING);
        if (hour + hours > LAST_HOUR) {
            throw new IllegalStateException("it would be too late");
        }
        hour += hours;
        return hour;
    }

    public int now() {
        return hour;
    }

    public int publish() throws IllegalStateException {
        if (!mayPublishToday() || !findClues()) {
            throw new IllegalStateException("no puzzle can be published");
        }
        Puzzle puzzle = puzzles[puzzleCount];
        puzzle.appear(hour);
        for (int cell = 0; cell < CELLS; cell++) {
            puzzle.setLetter(cell, square.bestLetter(words, cell));
        }
        for (int entry = 0; entry < ENTRIES; entry++) {
            puzzle.setClue(entry, clues.chosen(entry));
        }
        clues.useChosen(today());
        puzzleCount++;
        return puzzleCount - 1;
    }

    public int clueOf(int puzzle, int entry) throws IndexOutOfBoundsException {
        needIndex(puzzle, puzzleCount);
        needIndex(entry, ENTRIES);
        return puzzles[puzzle].clueNumber(entry);
    }

    // ---- solvers

    public int addSolver(int offset, int coins) throws IllegalArgumentException, IllegalStateException {
        needRange(offset, LEAST_OFFSET, MOST_OFFSET);
        needRange(coins, 0, MOST_COINS);
        if (solverCount >= MOST_SOLVERS) {
            throw new IllegalStateException("there are no more solvers");
        }
        solvers[solverCount].join(offset, coins);
        solverCount++;
        return solverCount - 1;
    }

    public boolean enter(int solver, int puzzle, int cell, int letter)
            throws IndexOutOfBoundsException, IllegalStateException {
        needCellOf(solver, puzzle, cell);
        needIndex(letter, LETTERS);
        needUnfinished(solver, puzzle, cell);
        boolean isRight = puzzles[puzzle].letter(cell) == letter;
        if (isRight) {
            becomeRight(solver, puzzle, cell);
        }
        return isRight;
    }

    public int help(int solver, int puzzle, int cell) throws IndexOutOfBoundsException, IllegalStateException {
        needCellOf(solver, puzzle, cell);
        needUnfinished(solver, puzzle, cell);
        if (!solvers[solver].canPayHelp(puzzle)) {
            throw new IllegalStateException("the solver has not so many coins");
        }
        solvers[solver].payHelp(puzzle, cell);
        becomeRight(solver, puzzle, cell);
        return puzzles[puzzle].letter(cell);
    }

    public int judge(int puzzle, int entry) throws IndexOutOfBoundsException, IllegalStateException {
        needIndex(puzzle, puzzleCount);
        needIndex(entry, ENTRIES);
        if (puzzles[puzzle].isWrong(entry)) {
            throw new IllegalStateException("the entry was judged wrong");
        }
        int openedNow = cellsOf(entry) & ~puzzles[puzzle].openCells();
        puzzles[puzzle].setWrong(entry);
        events.add(NONE, puzzle, entry, hour);
        int longer = 0;
        for (int s = 0; s < solverCount; s++) {
            int before = keptStreak(s);
            solvers[s].payBack(puzzle, openedNow);
            countIfSolved(s, puzzle);
            if (keptStreak(s) > before) {
                longer++;
            }
        }
        return longer;
    }

    public int solvedAt(int solver, int puzzle) throws IndexOutOfBoundsException {
        needIndex(solver, solverCount);
        needIndex(puzzle, puzzleCount);
        Puzzle asked = puzzles[puzzle];
        return solvers[solver].progress().solvedHour(puzzle, asked.openCells(), asked.hourOfAppearing());
    }

    public int open(int puzzle) throws IndexOutOfBoundsException {
        needIndex(puzzle, puzzleCount);
        return puzzles[puzzle].openCells();
    }

    public int coins(int solver) throws IndexOutOfBoundsException {
        needIndex(solver, solverCount);
        return solvers[solver].purse();
    }

    public int streak(int solver) throws IndexOutOfBoundsException {
        needIndex(solver, solverCount);
        return keptStreak(solver);
    }

    public int streakAnew(int solver) throws IndexOutOfBoundsException {
        needIndex(solver, solverCount);
        replayed.begin(solvers[solver].progress().hoursAhead());
        Arrays.fill(replayedOpen, 0);
        for (int e = 0; e < events.count(); e++) {
            replay(e, solver);
        }
        return replayed.daysInARow(hour);
    }

    public int solverAt(int place) {
        for (int s = 0; s < solverCount; s++) {
            if (rank(s) == place) {
                return s;
            }
        }
        return NONE;
    }

    // ---- what calls need

    private static boolean isIndex(int index, int count) {
        return index >= 0 && index < count;
    }

    private static void needIndex(int index, int count) {
        if (!isIndex(index, count)) {
            throw new IndexOutOfBoundsException("there is none of this number");
        }
    }

    private static void needRange(int value, int least, int most) {
        if (value < least || value > most) {
            throw new IllegalArgumentException("the argument is out of its range");
        }
    }

    private void needRoomForLetter() {
        if (spelled.isFull()) {
            throw new IllegalStateException("the text is full");
        }
    }

    private void needCellOf(int solver, int puzzle, int cell) {
        needIndex(solver, solverCount);
        needIndex(puzzle, puzzleCount);
        needIndex(cell, CELLS);
    }

    private void needUnfinished(int solver, int puzzle, int cell) {
        if (solvers[solver].progress().isRight(puzzle, cell) || puzzles[puzzle].isOpen(cell)) {
            throw new IllegalStateException("the cell is right or open");
        }
    }

    // ---- parts of the calls

    private int today() {
        return hour / HOURS_OF_DAY;
    }

    private boolean mayPublishToday() {
        if (puzzleCount >= MOST_PUZZLES) {
            return false;
        }
        return puzzleCount == 0 || puzzles[puzzleCount - 1].hourOfAppearing() / HOURS_OF_DAY < today();
    }

    /** Leaves the best fill in the square and a clue for each of its entries chosen, if there are such. */
    private boolean findClues() {
        square.search(words);
        if (square.bestWeight() == NONE) {
            return false;
        }
        for (int entry = 0; entry < ENTRIES; entry++) {
            if (!clues.choose(entry, square.bestWord(words, entry), today())) {
                return false;
            }
        }
        return true;
    }

    private static int cellOf(int entry, int place) {
        return entry < SIDE ? entry * SIDE + place : place * SIDE + entry - SIDE;
    }

    private static int cellsOf(int entry) {
        int cells = 0;
        for (int i = 0; i < SIDE; i++) {
            cells |= 1 << cellOf(entry, i);
        }
        return cells;
    }

    private void becomeRight(int solver, int puzzle, int cell) {
        events.add(solver, puzzle, cell, hour);
        solvers[solver].progress().setRight(puzzle, cell, hour);
        countIfSolved(solver, puzzle);
    }

    private void countIfSolved(int solver, int puzzle) {
        Puzzle solved = puzzles[puzzle];
        solvers[solver].progress().countIfSolved(puzzle, solved.openCells(), solved.hourOfAppearing());
    }

    private int keptStreak(int solver) {
        return solvers[solver].progress().daysInARow(hour);
    }

    private void replay(int event, int solver) {
        int puzzle = events.puzzle(event);
        if (events.solver(event) == NONE) {
            replayedOpen[puzzle] |= cellsOf(events.part(event));
        } else if (events.solver(event) == solver) {
            replayed.setRight(puzzle, events.part(event), events.hourOf(event));
        } else {
            return;
        }
        replayed.countIfSolved(puzzle, replayedOpen[puzzle], puzzles[puzzle].hourOfAppearing());
    }

    private int rank(int solver) {
        int ahead = 0;
        for (int s = 0; s < solverCount; s++) {
            if (s != solver && isAhead(s, solver)) {
                ahead++;
            }
        }
        return ahead;
    }

    private boolean isAhead(int one, int other) {
        int oneStreak = keptStreak(one);
        int otherStreak = keptStreak(other);
        if (oneStreak != otherStreak) {
            return oneStreak > otherStreak;
        }
        int oneCoins = solvers[one].purse();
        int otherCoins = solvers[other].purse();
        return oneCoins != otherCoins ? oneCoins > otherCoins : one < other;
    }

    // ---- the parts

    /** The spelled text, letter by letter, so that no pair of chars is ever torn. */
    private static final class Spelled {
        private final int[] letters = new int[SIDE];
        private int length;

        boolean isFull() {
            return length >= SIDE;
        }

        int letterCount() {
            return length;
        }

        void putAtEnd(int letter) {
            letters[length] = letter;
            length++;
        }

        void putAtBeginning(int letter) {
            for (int i = length; i > 0; i--) {
                letters[i] = letters[i - 1];
            }
            letters[0] = letter;
            length++;
        }

        void reverse() {
            if (length > 1) {
                int first = letters[0];
                letters[0] = letters[length - 1];
                letters[length - 1] = first;
            }
        }

        void empty() {
            length = 0;
        }

        int charCount() {
            int chars = 0;
            for (int i = 0; i < length; i++) {
                chars += width(letters[i]);
            }
            return chars;
        }

        int charOrNone(int place) {
            if (place < 0) {
                return NONE;
            }
            int begin = 0;
            for (int i = 0; i < length; i++) {
                int end = begin + width(letters[i]);
                if (place < end) {
                    return charOf(letters[i], place - begin);
                }
                begin = end;
            }
            return NONE;
        }

        int code() {
            int code = EMPTY_CODE;
            for (int i = 0; i < length; i++) {
                code = code * LETTERS + letters[i];
            }
            return code;
        }

        private static int width(int letter) {
            return letter == PAIR_LETTER ? 2 : 1;
        }

        private static int charOf(int letter, int place) {
            if (letter != PAIR_LETTER) {
                return FIRST_CHAR + letter;
            }
            return place == 0 ? HIGH_SURROGATE : LOW_SURROGATE;
        }
    }

    /**
     * The words. A text of up to three letters has a code: a 1 and then its letters, as digits to the
     * base 9. The chars of the letter 8 are above those of all others, so among words the order of the
     * codes is the order of the texts char by char.
     */
    private static final class Words {
        private final int[] codes = new int[MOST_WORDS];
        private final int[] letters = new int[MOST_WORDS * SIDE];
        private final int[] weights = new int[MOST_WORDS];
        private final int[] ordered = new int[MOST_WORDS];
        private final int[] beginnings = new int[CODES];
        private final int[] numbers = new int[CODES];
        private int count;

        Words() {
            Arrays.fill(numbers, NONE);
        }

        int count() {
            return count;
        }

        int add(int code, int weight) {
            int word = count;
            codes[word] = code;
            weights[word] = weight;
            numbers[code] = word;
            putInOrder(word);
            int part = code;
            for (int i = SIDE - 1; i >= 0; i--) {
                letters[word * SIDE + i] = part % LETTERS;
                beginnings[part]++;
                part /= LETTERS;
            }
            beginnings[EMPTY_CODE]++;
            count++;
            return word;
        }

        private void putInOrder(int word) {
            int place = word;
            while (place > 0 && codes[ordered[place - 1]] > codes[word]) {
                ordered[place] = ordered[place - 1];
                place--;
            }
            ordered[place] = word;
        }

        int weight(int word) {
            return weights[word];
        }

        void weigh(int word, int weight) {
            weights[word] = weight;
        }

        int inOrder(int place) {
            return ordered[place];
        }

        int beginningWith(int code) {
            return beginnings[code];
        }

        int wordOrNone(int code) {
            return numbers[code];
        }

        int letter(int word, int place) {
            return letters[word * SIDE + place];
        }
    }

    /** The square with its fixed letters, and the search for its fills. */
    private static final class Square {
        private final int[] fixed = new int[CELLS];
        private final int[] rows = new int[SIDE];
        private final int[] bestRows = new int[SIDE];
        private int best;
        private int found;

        Square() {
            Arrays.fill(fixed, NONE);
        }

        int fixedLetter(int cell) {
            return fixed[cell];
        }

        void setFixed(int cell, int letter) {
            fixed[cell] = letter;
        }

        int bestWeight() {
            return best;
        }

        int foundCount() {
            return found;
        }

        /** Goes by the order of words, so that of several greatest fills the first one found is the best. */
        void search(Words words) {
            best = NONE;
            found = 0;
            for (int first = 0; first < words.count(); first++) {
                if (!canStand(words, 0, words.inOrder(first))) {
                    continue;
                }
                for (int second = 0; second < words.count(); second++) {
                    if (!canStand(words, 1, words.inOrder(second))) {
                        continue;
                    }
                    for (int third = 0; third < words.count(); third++) {
                        if (canStand(words, 2, words.inOrder(third))) {
                            keep(weightOfSquare(words));
                        }
                    }
                }
            }
        }

        private boolean canStand(Words words, int row, int word) {
            rows[row] = word;
            if (!agreesWithFixed(words, row)) {
                return false;
            }
            for (int column = 0; column < SIDE; column++) {
                if (words.beginningWith(columnCode(words, rows, column, row + 1)) == 0) {
                    return false;
                }
            }
            return true;
        }

        private void keep(int weight) {
            found++;
            if (weight > best) {
                best = weight;
                for (int row = 0; row < SIDE; row++) {
                    bestRows[row] = rows[row];
                }
            }
        }

        int greatestWeightOfAll(Words words) {
            int greatest = NONE;
            for (int first = 0; first < words.count(); first++) {
                for (int second = 0; second < words.count(); second++) {
                    for (int third = 0; third < words.count(); third++) {
                        rows[0] = first;
                        rows[1] = second;
                        rows[2] = third;
                        greatest = Math.max(greatest, weightIfFill(words));
                    }
                }
            }
            return greatest;
        }

        private int weightIfFill(Words words) {
            for (int row = 0; row < SIDE; row++) {
                if (!agreesWithFixed(words, row)) {
                    return NONE;
                }
            }
            for (int column = 0; column < SIDE; column++) {
                if (words.wordOrNone(columnCode(words, rows, column, SIDE)) == NONE) {
                    return NONE;
                }
            }
            return weightOfSquare(words);
        }

        private boolean agreesWithFixed(Words words, int row) {
            for (int column = 0; column < SIDE; column++) {
                int letter = fixed[row * SIDE + column];
                if (letter != NONE && letter != words.letter(rows[row], column)) {
                    return false;
                }
            }
            return true;
        }

        private int weightOfSquare(Words words) {
            int weight = 0;
            for (int i = 0; i < SIDE; i++) {
                weight += words.weight(rows[i]);
                int column = words.wordOrNone(columnCode(words, rows, i, SIDE));
                if (column != NONE) {
                    weight += words.weight(column);
                }
            }
            return weight;
        }

        private static int columnCode(Words words, int[] rowWords, int column, int depth) {
            int code = EMPTY_CODE;
            for (int row = 0; row < depth; row++) {
                code = code * LETTERS + words.letter(rowWords[row], column);
            }
            return code;
        }

        int bestLetter(Words words, int cell) {
            return words.letter(bestRows[cell / SIDE], cell % SIDE);
        }

        int bestWord(Words words, int entry) {
            if (entry < SIDE) {
                return bestRows[entry];
            }
            return words.wordOrNone(columnCode(words, bestRows, entry - SIDE, SIDE));
        }
    }

    /** The clues, and those chosen for the entries of a puzzle that is to be published. */
    private static final class Clues {
        private final int[] wordOf = new int[MOST_CLUES];
        private final int[] stages = new int[MOST_CLUES];
        private final int[] lastDays = new int[MOST_CLUES];
        private final int[] chosenOf = new int[ENTRIES];
        private int count;

        int count() {
            return count;
        }

        int add(int word) {
            wordOf[count] = word;
            lastDays[count] = NONE;
            count++;
            return count - 1;
        }

        boolean isReady(int clue) {
            return stages[clue] >= READY;
        }

        int look(int clue, boolean isFine) {
            stages[clue] = isFine ? stages[clue] + 1 : 0;
            return stages[clue];
        }

        int lastDay(int clue) {
            return lastDays[clue];
        }

        int chosen(int entry) {
            return chosenOf[entry];
        }

        boolean choose(int entry, int word, int today) {
            int best = NONE;
            for (int c = 0; c < count; c++) {
                boolean isFree = wordOf[c] == word && canBeUsed(c, today) && !isChosenAhead(c, entry);
                if (isFree && (best == NONE || lastDays[c] < lastDays[best])) {
                    best = c;
                }
            }
            chosenOf[entry] = best;
            return best != NONE;
        }

        private boolean canBeUsed(int clue, int today) {
            if (!isReady(clue)) {
                return false;
            }
            return lastDays[clue] == NONE || today - lastDays[clue] > DAYS_OF_REST;
        }

        private boolean isChosenAhead(int clue, int entry) {
            for (int e = 0; e < entry; e++) {
                if (chosenOf[e] == clue) {
                    return true;
                }
            }
            return false;
        }

        void useChosen(int today) {
            for (int e = 0; e < ENTRIES; e++) {
                lastDays[chosenOf[e]] = today;
            }
        }
    }

    /** A published puzzle. */
    private static final class Puzzle {
        private final int[] letters = new int[CELLS];
        private final int[] cluesOf = new int[ENTRIES];
        private int appeared;
        private int wrong;
        private int opened;

        void appear(int hour) {
            appeared = hour;
        }

        int hourOfAppearing() {
            return appeared;
        }

        int letter(int cell) {
            return letters[cell];
        }

        void setLetter(int cell, int letter) {
            letters[cell] = letter;
        }

        int clueNumber(int entry) {
            return cluesOf[entry];
        }

        void setClue(int entry, int clue) {
            cluesOf[entry] = clue;
        }

        boolean isWrong(int entry) {
            return (wrong >> entry & 1) != 0;
        }

        void setWrong(int entry) {
            wrong |= 1 << entry;
            opened |= cellsOf(entry);
        }

        int openCells() {
            return opened;
        }

        boolean isOpen(int cell) {
            return (opened >> cell & 1) != 0;
        }
    }

    /** What became right for a solver and when, and the days that count by that. */
    private static final class Progress {
        private final int[] rightHours = new int[MOST_PUZZLES * CELLS];
        private final boolean[] counting = new boolean[DAYS];
        private int offset;

        void begin(int hoursAhead) {
            offset = hoursAhead;
            Arrays.fill(rightHours, NONE);
            for (int i = 0; i < DAYS; i++) {
                counting[i] = false;
            }
        }

        int hoursAhead() {
            return offset;
        }

        boolean isRight(int puzzle, int cell) {
            return rightHours[puzzle * CELLS + cell] != NONE;
        }

        void setRight(int puzzle, int cell, int hour) {
            rightHours[puzzle * CELLS + cell] = hour;
        }

        int solvedHour(int puzzle, int openCells, int hourOfAppearing) {
            boolean hasRight = false;
            int latest = NONE;
            for (int cell = 0; cell < CELLS; cell++) {
                boolean isOpen = (openCells >> cell & 1) != 0;
                boolean isRight = isRight(puzzle, cell);
                if (!isRight && !isOpen) {
                    return NONE;
                }
                if (isRight) {
                    hasRight = true;
                }
                if (!isOpen) {
                    latest = Math.max(latest, rightHours[puzzle * CELLS + cell]);
                }
            }
            if (!hasRight) {
                return NONE;
            }
            return openCells == ALL_CELLS ? hourOfAppearing : latest;
        }

        void countIfSolved(int puzzle, int openCells, int hourOfAppearing) {
            int solved = solvedHour(puzzle, openCells, hourOfAppearing);
            if (solved != NONE) {
                counting[dayIndex(solved)] = true;
            }
        }

        int daysInARow(int now) {
            int today = dayIndex(now);
            int days = 0;
            for (int i = counting[today] ? today : today - 1; i >= 0 && counting[i]; i--) {
                days++;
            }
            return days;
        }

        private int dayIndex(int hour) {
            return Math.floorDiv(hour + offset, HOURS_OF_DAY) - FIRST_DAY;
        }
    }

    /** A solver with its coins and what it paid for help. */
    private static final class Solver {
        private final Progress progress = new Progress();
        private final int[] paid = new int[MOST_PUZZLES * CELLS];
        private final int[] timesHelped = new int[MOST_PUZZLES];
        private int coinsLeft;

        void join(int offset, int coins) {
            progress.begin(offset);
            coinsLeft = coins;
        }

        Progress progress() {
            return progress;
        }

        int purse() {
            return coinsLeft;
        }

        boolean canPayHelp(int puzzle) {
            return coinsLeft >= cost(puzzle);
        }

        void payHelp(int puzzle, int cell) {
            int cost = cost(puzzle);
            coinsLeft -= cost;
            paid[puzzle * CELLS + cell] = cost;
            timesHelped[puzzle]++;
        }

        void payBack(int puzzle, int cells) {
            for (int cell = 0; cell < CELLS; cell++) {
                if ((cells >> cell & 1) != 0) {
                    coinsLeft += paid[puzzle * CELLS + cell];
                }
            }
        }

        private int cost(int puzzle) {
            int cost = FIRST_COST;
            for (int i = 0; i < timesHelped[puzzle]; i++) {
                cost = Math.min(2 * cost, MOST_COST);
            }
            return cost;
        }
    }

    /** All cells that became right and all entries that were judged wrong, in their order. */
    private static final class Events {
        private final int[] solverOf = new int[MOST_EVENTS];
        private final int[] puzzleOf = new int[MOST_EVENTS];
        private final int[] partOf = new int[MOST_EVENTS];
        private final int[] hours = new int[MOST_EVENTS];
        private int count;

        int count() {
            return count;
        }

        /** The part is a cell that became right, or with no solver an entry judged wrong. */
        void add(int solver, int puzzle, int part, int hour) {
            if (count < MOST_EVENTS) {
                solverOf[count] = solver;
                puzzleOf[count] = puzzle;
                partOf[count] = part;
                hours[count] = hour;
                count++;
            }
        }

        int solver(int event) {
            return solverOf[event];
        }

        int puzzle(int event) {
            return puzzleOf[event];
        }

        int part(int event) {
            return partOf[event];
        }

        int hourOf(int event) {
            return hours[event];
        }
    }
}
