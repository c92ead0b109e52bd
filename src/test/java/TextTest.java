/** Promises 1 to 6: a new object and the spelled text. */
public final class TextTest {
    private static final Check check = new Check();

    public static void main(String[] args) {
        aNewObject();
        spelling();
        inserting();
        turning();
        clearing();
        chars();
        twoObjects();
        check.end();
    }

    private static void aNewObject() {
        Clueyard x = new Clueyard();
        check.due("1: now()", x.now(), 0);
        check.due("1: clearSpelled()", x.clearSpelled(), 0);
        check.due("1: wordAt(0)", x.wordAt(0), Clueyard.NONE);
        check.due("1: beginning()", x.beginning(), 0);
        check.due("1: fills()", x.fills(), 0);
        check.due("1: solverAt(0)", x.solverAt(0), Clueyard.NONE);
        check.due("1: fix(4, NONE)", x.fix(4, Clueyard.NONE), Clueyard.NONE);
        check.bounds("1: setWeight(0, 0)", () -> x.setWeight(0, 0));
        check.bounds("1: lastUsed(0)", () -> x.lastUsed(0));
        check.bounds("1: open(0)", () -> x.open(0));
        check.bounds("1: coins(0)", () -> x.coins(0));
    }

    private static void spelling() {
        Clueyard x = new Clueyard();
        check.due("2: spell(0)", x.spell(0), 1);
        check.due("2: spell(8)", x.spell(8), 3);
        check.bounds("2: spell(9)", () -> x.spell(9));
        check.bounds("2: spell(-1)", () -> x.spell(-1));
        check.bounds("2: spell(MAX)", () -> x.spell(Integer.MAX_VALUE));
        check.bounds("2: spell(MIN)", () -> x.spell(Integer.MIN_VALUE));
        check.due("2: spell(7)", x.spell(7), 4);
        check.state("2: spell(0) of a full text", () -> x.spell(0));
        check.bounds("2: spell(9) of a full text", () -> x.spell(9));
        isText(x, "a?!h");
    }

    private static void inserting() {
        Clueyard x = new Clueyard();
        check.due("3: insert(0)", x.insert(0), 1);
        check.due("3: insert(8)", x.insert(8), 3);
        check.bounds("3: insert(9)", () -> x.insert(9));
        check.bounds("3: insert(-1)", () -> x.insert(-1));
        check.due("3: insert(2)", x.insert(2), 4);
        check.state("3: insert(0) to a full text", () -> x.insert(0));
        check.bounds("3: insert(-1) to a full text", () -> x.insert(-1));
        isText(x, "c?!a");
        x.clearSpelled();
        x.spell(1);
        x.insert(0);
        check.due("3: spell behind insert", x.spell(2), 3);
        isText(x, "abc");
    }

    private static void turning() {
        Clueyard x = new Clueyard();
        check.due("4: turn() of nothing", x.turn(), 0);
        x.spell(8);
        check.due("4: turn() of one letter", x.turn(), 1);
        isText(x, "?!");
        x.spell(0);
        check.due("4: turn() of two letters", x.turn(), 2);
        isText(x, "a?!");
        x.spell(1);
        check.due("4: turn() of three letters", x.turn(), 3);
        isText(x, "b?!a");
        x.turn();
        isText(x, "a?!b");
    }

    private static void clearing() {
        Clueyard x = new Clueyard();
        check.due("5: clearSpelled() of nothing", x.clearSpelled(), 0);
        House.spelled(x, "ii");
        check.due("5: clearSpelled()", x.clearSpelled(), 2);
        isText(x, "");
        check.due("5: clearSpelled() again", x.clearSpelled(), 0);
        check.due("5: spell(3) behind it", x.spell(3), 1);
        isText(x, "d");
    }

    private static void chars() {
        Clueyard x = new Clueyard();
        check.element("6: charAt(0) of nothing", () -> x.charAt(0));
        House.spelled(x, "iai");
        isText(x, "?!a?!");
        check.element("6: charAt(-1)", () -> x.charAt(-1));
        check.element("6: charAt(5)", () -> x.charAt(5));
        check.element("6: charAt(MAX)", () -> x.charAt(Integer.MAX_VALUE));
        check.element("6: charAt(MIN)", () -> x.charAt(Integer.MIN_VALUE));
        for (int letter = 0; letter < 8; letter++) {
            x.clearSpelled();
            x.spell(letter);
            check.due("6: charAt(0) of letter " + letter, x.charAt(0), 'a' + letter);
        }
    }

    private static void twoObjects() {
        Clueyard one = new Clueyard();
        Clueyard other = new Clueyard();
        House.word(one, "abc", 5);
        check.due("1: clearSpelled() of another object", other.clearSpelled(), 0);
        check.due("1: wordAt(0) of another object", other.wordAt(0), Clueyard.NONE);
    }

    /** In the text ? stands for the high surrogate and ! for the low one. */
    private static void isText(Clueyard x, String text) {
        for (int i = 0; i < text.length(); i++) {
            char sign = text.charAt(i);
            int want = sign == '?' ? 0xD834 : sign == '!' ? 0xDD1E : sign;
            check.due("charAt(" + i + ") of " + text, x.charAt(i), want);
        }
        check.element("charAt behind " + text, () -> x.charAt(text.length()));
    }
}
