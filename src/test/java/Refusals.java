import java.util.ArrayList;
import java.util.EnumMap;
import java.util.List;
import java.util.Map;

/**
 * Looks whether a call is refused as it is due, and whether nothing has changed by that: behind it a
 * house must answer all further calls like one that was never asked. Each group of further calls has a
 * house of its own, so that none gets more than its 512 calls.
 */
final class Refusals {
    private static final List<List<String>> GROUPS = List.of(
            ofText(), ofFills(), ofClues(), ofPuzzles(), ofSolving(), ofJudging());

    private final Check check;
    private final Map<Start, List<List<String>>> unasked = new EnumMap<>(Start.class);

    Refusals(Check check) {
        this.check = check;
    }

    void due(int promise, Start start, String call, String want) {
        List<List<String>> dueThen = unasked.computeIfAbsent(start, Refusals::answersOfAll);
        for (int g = 0; g < GROUPS.size(); g++) {
            Clueyard x = start.make();
            String got = Calls.answer(x, call);
            check.holds(promise + ": " + call + " in " + start + " answered " + got + ", due is " + want,
                    got.equals(want));
            same(promise + ": behind " + call + " in " + start + ", ", answers(x, GROUPS.get(g)), dueThen.get(g));
        }
    }

    private void same(String when, List<String> got, List<String> want) {
        for (int i = 0; i < want.size(); i++) {
            if (!got.get(i).equals(want.get(i))) {
                check.holds(when + got.get(i) + ", due is " + want.get(i), false);
                return;
            }
        }
    }

    private static List<List<String>> answersOfAll(Start start) {
        List<List<String>> all = new ArrayList<>();
        for (List<String> group : GROUPS) {
            all.add(answers(start.make(), group));
        }
        return all;
    }

    private static List<String> answers(Clueyard x, List<String> calls) {
        List<String> all = new ArrayList<>();
        for (String call : calls) {
            all.add(call + " answered " + Calls.answer(x, call));
        }
        return all;
    }

    /** Adds the call once for each number, which stands in the place of the sign ?. */
    private static void each(List<String> calls, String call, int least, int most) {
        for (int n = least; n <= most; n++) {
            calls.add(call.replace("?", "" + n));
        }
    }

    private static List<String> ofText() {
        List<String> calls = new ArrayList<>();
        each(calls, "charAt ?", 0, 6);
        calls.add("beginning");
        each(calls, "wordAt ?", 0, 30);
        calls.addAll(List.of("spell 7", "insert 8", "turn", "spell 6"));
        each(calls, "charAt ?", 0, 6);
        calls.addAll(List.of("beginning", "addWord 7", "clearSpelled", "spell 2", "charAt 0", "charAt 1"));
        each(calls, "setWeight ? 50", 0, 30);
        return calls;
    }

    private static List<String> ofFills() {
        List<String> calls = new ArrayList<>(List.of("fillWeight", "fillWeightByAll", "fills"));
        each(calls, "fillAt ?", 0, 8);
        each(calls, "fix ? -1", 0, 8);
        calls.addAll(List.of("fillWeight", "fillWeightByAll", "fills"));
        each(calls, "fillAt ?", 0, 8);
        return calls;
    }

    private static List<String> ofClues() {
        List<String> calls = new ArrayList<>();
        calls.add("now");
        calls.add("publish");
        each(calls, "lastUsed ?", 0, 60);
        each(calls, "clueOf ? 0", 0, 20);
        each(calls, "clueOf ? 5", 0, 20);
        each(calls, "edit ? 1", 0, 60);
        calls.addAll(List.of("clue 0", "clue 0", "pass 1", "publish", "pass 1999", "now"));
        each(calls, "edit ? 1", 0, 20);
        calls.addAll(List.of("clueOf 1 0", "clueOf 1 5", "clueOf 2 0"));
        return calls;
    }

    private static List<String> ofPuzzles() {
        List<String> calls = new ArrayList<>();
        each(calls, "open ?", 0, 20);
        for (int s = 0; s < 6; s++) {
            each(calls, "solvedAt " + s + " ?", 0, 20);
        }
        addAllOfSolvers(calls);
        calls.addAll(List.of("addSolver 3 7", "coins 0", "coins 1", "coins 5", "coins 6"));
        return calls;
    }

    private static List<String> ofSolving() {
        List<String> calls = new ArrayList<>();
        for (int s = 0; s < 6; s++) {
            for (int p = 0; p < 2; p++) {
                each(calls, "help " + s + " " + p + " ?", 0, 8);
            }
            calls.add("coins " + s);
            for (int p = 0; p < 2; p++) {
                each(calls, "enter " + s + " " + p + " ? 0", 0, 8);
            }
        }
        addAllOfSolvers(calls);
        return calls;
    }

    private static List<String> ofJudging() {
        List<String> calls = new ArrayList<>();
        for (int p = 0; p < 2; p++) {
            each(calls, "judge " + p + " ?", 0, 5);
        }
        each(calls, "judge 19 ?", 0, 5);
        addAllOfSolvers(calls);
        for (int s = 0; s < 6; s++) {
            calls.addAll(List.of("solvedAt " + s + " 0", "solvedAt " + s + " 1", "solvedAt " + s + " 19"));
        }
        calls.add("pass 24");
        addAllOfSolvers(calls);
        return calls;
    }

    private static void addAllOfSolvers(List<String> calls) {
        each(calls, "coins ?", 0, 6);
        each(calls, "streak ?", 0, 6);
        each(calls, "streakAnew ?", 0, 6);
        each(calls, "solverAt ?", 0, 6);
    }
}
