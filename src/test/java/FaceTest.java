import java.lang.reflect.Constructor;
import java.lang.reflect.Field;
import java.lang.reflect.Method;
import java.lang.reflect.Modifier;
import java.util.TreeSet;

/** The public face, and that there is no other member of the class that is not private. */
public final class FaceTest {
    private static final Check check = new Check();

    private static final String[] METHODS = {
        "int spell(int)", "int insert(int)", "int turn()", "int clearSpelled()", "char charAt(int)",
        "int addWord(int)", "int setWeight(int,int)", "int wordAt(int)", "int beginning()",
        "int fix(int,int)", "int fillWeight()", "int fillWeightByAll()", "int fills()", "int fillAt(int)",
        "int clue(int)", "int edit(int,boolean)", "int lastUsed(int)", "int pass(int)", "int now()",
        "int publish()", "int clueOf(int,int)", "int addSolver(int,int)", "boolean enter(int,int,int,int)",
        "int help(int,int,int)", "int judge(int,int)", "int solvedAt(int,int)", "int open(int)",
        "int coins(int)", "int streak(int)", "int streakAnew(int)", "int solverAt(int)",
    };

    public static void main(String[] args) {
        check.due("NONE", Clueyard.NONE, -1);
        check.holds("the class is public and final",
                Modifier.isPublic(Clueyard.class.getModifiers()) && Modifier.isFinal(Clueyard.class.getModifiers()));
        TreeSet<String> due = new TreeSet<>(java.util.List.of(METHODS));
        TreeSet<String> names = new TreeSet<>();
        for (String method : METHODS) {
            names.add(method.substring(method.indexOf(' ') + 1, method.indexOf('(')));
        }
        methods(due, names);
        fields();
        for (Constructor<?> made : Clueyard.class.getDeclaredConstructors()) {
            check.holds("the constructor is public and takes nothing",
                    Modifier.isPublic(made.getModifiers()) && made.getParameterCount() == 0);
        }
        for (Class<?> inside : Clueyard.class.getDeclaredClasses()) {
            check.holds(inside + " is static and not public", Modifier.isStatic(inside.getModifiers())
                    && !Modifier.isPublic(inside.getModifiers()) && !Modifier.isProtected(inside.getModifiers()));
        }
        check.end();
    }

    private static void methods(TreeSet<String> due, TreeSet<String> names) {
        for (Method method : Clueyard.class.getDeclaredMethods()) {
            if (Modifier.isPrivate(method.getModifiers())) {
                check.holds("a private method is called " + method.getName(), !names.contains(method.getName()));
            } else {
                String face = method.getReturnType() + " " + method.toString()
                        .replaceFirst(".*Clueyard\\.", "").replaceFirst("\\).*", ")");
                check.holds("the face has " + face, due.remove(face) && Modifier.isPublic(method.getModifiers())
                        && !Modifier.isStatic(method.getModifiers()));
            }
        }
        check.holds("the class lacks " + due, due.isEmpty());
    }

    private static void fields() {
        for (Field field : Clueyard.class.getDeclaredFields()) {
            boolean isNone = field.getName().equals("NONE");
            check.holds(field + " is private", isNone || Modifier.isPrivate(field.getModifiers()));
            check.holds(field + " is final", !Modifier.isStatic(field.getModifiers())
                    || Modifier.isFinal(field.getModifiers()));
        }
    }
}
