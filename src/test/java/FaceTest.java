import java.lang.reflect.Field;
import java.lang.reflect.Method;
import java.lang.reflect.Modifier;
import java.util.TreeSet;

/** The public face is the document's, no more and no less, and no call of it ever throws. */
public final class FaceTest {
    private static final String[] FACE = {"row 2", "drop 1", "turn 1", "swap 3", "lift 1", "begin 1", "toss 1", "join 1",
        "once 1", "rowOf 2", "throwAt 2", "isClean 1", "isCleanAgain 1", "stateOf 2", "juggler 1", "could 1", "joinTo 1",
        "joinAgain 1", "joinThrow 2", "between 2", "ranked 2", "tellRow 1", "tellState 0", "tellJoin 1", "sign 1",
        "append 1", "read 0", "refusal 1", "account 1", "isWell 0", "mean 0", "undo 0", "save 0", "restore 0"};
    private static final int[] FAR = {Integer.MIN_VALUE, Integer.MIN_VALUE + 1, -1000, -2, -1, 0, 1, 2, 5, 6, 7, 8, 9, 10,
        31, 127, 511, 512, 1 << 29, 1 << 30, Integer.MAX_VALUE - 8, Integer.MAX_VALUE};
    private static int wrong = 0;

    public static void main(String[] args) throws ReflectiveOperationException {
        methods();
        members();
        farArguments();
        System.out.println(wrong == 0 ? "the face is as due" : wrong + " faults of the face");
        if (wrong != 0) {
            System.exit(1);
        }
    }

    private static void due(boolean right, String told) {
        if (!right) {
            wrong++;
            System.out.println(told);
        }
    }

    private static void methods() {
        TreeSet<String> wants = new TreeSet<>();
        for (String method : FACE) {
            wants.add(method + " int");
        }
        TreeSet<String> got = new TreeSet<>();
        TreeSet<String> names = new TreeSet<>();
        for (Method method : JugglingRows.class.getDeclaredMethods()) {
            if (!Modifier.isPrivate(method.getModifiers())) {
                got.add(method.getName() + " " + method.getParameterCount() + " " + method.getReturnType());
                names.add(method.getName());
            }
        }
        due(got.equals(wants), "the methods are " + got);
        for (Method method : JugglingRows.class.getDeclaredMethods()) {
            due(!Modifier.isPrivate(method.getModifiers()) || !names.contains(method.getName()),
                "a private method bears the name " + method.getName());
        }
    }

    private static void members() {
        TreeSet<String> open = new TreeSet<>();
        for (Field field : JugglingRows.class.getDeclaredFields()) {
            if (!Modifier.isPrivate(field.getModifiers())) {
                open.add(field.getName());
            }
        }
        due(open.toString().equals("[BAD, NONE, NOTHING, REFUSED]"), "the open fields are " + open);
        due(Modifier.isFinal(JugglingRows.class.getModifiers()), "the class is not final");
        due(JugglingRows.class.getDeclaredConstructors().length == 1, "there are more constructors");
        due(JugglingRows.class.getConstructors().length == 1, "the constructor is not public");
    }

    private static void farArguments() throws ReflectiveOperationException {
        for (Method method : JugglingRows.class.getDeclaredMethods()) {
            if (Modifier.isPublic(method.getModifiers())) {
                int many = method.getParameterCount();
                for (int first = 0; first < (many > 0 ? FAR.length : 1); first++) {
                    for (int second = 0; second < (many > 1 ? FAR.length : 1); second++) {
                        for (int third = 0; third < (many > 2 ? FAR.length : 1); third++) {
                            callOnEach(method, FAR[first], FAR[second], FAR[third]);
                        }
                    }
                }
            }
        }
    }

    private static void callOnEach(Method method, int first, int second, int third) throws ReflectiveOperationException {
        Object[] all = {first, second, third};
        Object[] arguments = java.util.Arrays.copyOf(all, method.getParameterCount());
        method.invoke(new JugglingRows(), arguments);
        JugglingRows full = new JugglingRows();
        int[] rows = {97531, 321, 0, 51, 9, 80000000};
        int[] lengths = {5, 3, 1, 2, 1, 8};
        for (int row = 0; row < rows.length; row++) {
            full.row(rows[row], lengths[row]);
        }
        full.begin(3);
        full.join(3);
        full.append('x');
        full.save();
        method.invoke(full, arguments);
        method.invoke(full, arguments);
        due(full.isWell() == 1, method.getName() + " makes unwell");
    }
}
