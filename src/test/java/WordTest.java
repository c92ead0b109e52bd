/** Promises 7 to 10: words. */
public final class WordTest {
    private static final Check check = new Check();

    public static void main(String[] args) {
        adding();
        mostWords();
        weights();
        order();
        beginnings();
        check.end();
    }

    private static void adding() {
        Clueyard x = new Clueyard();
        check.state("7: addWord(0) of nothing", () -> x.addWord(0));
        House.spelled(x, "ab");
        check.state("7: addWord(0) of two letters", () -> x.addWord(0));
        check.argument("7: addWord(100) of two letters", () -> x.addWord(100));
        House.spelled(x, "ai");
        check.state("7: addWord(0) of three chars that are two letters", () -> x.addWord(0));
        House.spelled(x, "abi");
        check.argument("7: addWord(-1)", () -> x.addWord(-1));
        check.argument("7: addWord(100)", () -> x.addWord(100));
        check.due("7: wordAt(0) behind these", x.wordAt(0), Clueyard.NONE);
        check.due("7: addWord(99)", x.addWord(99), 0);
        check.state("7: addWord(0) of a word", () -> x.addWord(0));
        check.due("7: the text stays", x.turn(), 3);
        check.due("7: addWord(0) of the turned text", x.addWord(0), 1);
        check.due("7: the weight", x.setWeight(0, 1), 99);
        check.due("7: the other weight", x.setWeight(1, 1), 0);
        check.due("7: wordAt(2)", x.wordAt(2), Clueyard.NONE);
    }

    private static void mostWords() {
        Clueyard x = new Clueyard();
        for (int w = 0; w < 30; w++) {
            x.clearSpelled();
            x.spell(w / 9);
            x.spell(w % 9);
            x.spell(0);
            check.due("7: addWord number " + w, x.addWord(w), w);
        }
        House.spelled(x, "iii");
        check.state("7: addWord(0) of a word too many", () -> x.addWord(0));
        check.argument("7: addWord(-1) of a word too many", () -> x.addWord(-1));
        check.due("9: wordAt(29)", x.wordAt(29), 29);
        check.due("9: wordAt(30)", x.wordAt(30), Clueyard.NONE);
    }

    private static void weights() {
        Clueyard x = new Clueyard();
        House.word(x, "aaa", 7);
        check.due("8: setWeight(0, 99)", x.setWeight(0, 99), 7);
        check.due("8: setWeight(0, 0)", x.setWeight(0, 0), 99);
        check.argument("8: setWeight(0, 100)", () -> x.setWeight(0, 100));
        check.argument("8: setWeight(0, -1)", () -> x.setWeight(0, -1));
        check.bounds("8: setWeight(1, 5)", () -> x.setWeight(1, 5));
        check.bounds("8: setWeight(-1, 5)", () -> x.setWeight(-1, 5));
        check.bounds("8: setWeight(1, 100)", () -> x.setWeight(1, 100));
        check.due("8: setWeight(0, 3)", x.setWeight(0, 3), 0);
        check.due("8: fillWeight()", x.fillWeight(), 18);
    }

    private static void order() {
        Clueyard x = new Clueyard();
        String[] texts = {"iaa", "aia", "haa", "aai", "aah", "aaa", "abb", "iai"};
        for (String text : texts) {
            House.word(x, text, 0);
        }
        int[] due = {5, 4, 3, 6, 1, 2, 0, 7};
        for (int place = 0; place < due.length; place++) {
            check.due("9: wordAt(" + place + ")", x.wordAt(place), due[place]);
        }
        check.due("9: wordAt(8)", x.wordAt(8), Clueyard.NONE);
        check.due("9: wordAt(-1)", x.wordAt(-1), Clueyard.NONE);
        check.due("9: wordAt(MAX)", x.wordAt(Integer.MAX_VALUE), Clueyard.NONE);
        check.due("9: wordAt(MIN)", x.wordAt(Integer.MIN_VALUE), Clueyard.NONE);
    }

    private static void beginnings() {
        Clueyard x = new Clueyard();
        String[] texts = {"aaa", "aab", "abi", "iab", "iai", "hii"};
        for (String text : texts) {
            House.word(x, text, 0);
        }
        begin(x, "", 6);
        begin(x, "a", 3);
        begin(x, "b", 0);
        begin(x, "i", 2);
        begin(x, "h", 1);
        begin(x, "aa", 2);
        begin(x, "ia", 2);
        begin(x, "ii", 0);
        begin(x, "hi", 1);
        begin(x, "iai", 1);
        begin(x, "aac", 0);
    }

    private static void begin(Clueyard x, String text, int due) {
        House.spelled(x, text);
        check.due("10: beginning() with " + text, x.beginning(), due);
        check.due("10: the text stays", x.turn(), text.length());
    }
}
