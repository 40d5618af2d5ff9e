import java.lang.reflect.Constructor;
import java.lang.reflect.Field;
import java.lang.reflect.Method;
import java.lang.reflect.Modifier;
import java.util.TreeSet;

/** The class shows the document's face and nothing else, and no call ever throws. */
public final class FaceTest {
    private static final String[] METHODS = {
        "int put(long)", "int draw(int,int,int)", "int drop()", "int curve(int,int)", "int ray(int)",
        "int of(int,int,int)", "int times(int,int)", "int shift(int,int)", "int undo()",
        "long at(int,int)", "int about(int,int)", "int rate(int,int)", "int unlike(int,int)",
        "int below(int,int)", "int first(int,long)", "long heap(int,int)", "int wait(int,int)",
        "int come(int)", "int hardest(int,int)", "int stop()", "int serve(int)", "long moved(int,int)",
        "int late(int)", "long mostHeld()", "int mostLate()", "int keeps(int)",
        "int count(int)", "int trace(int)", "int status()", "int clear()"};
    private static final String[] CONSTANTS = {"BAD", "STATE", "FULL", "BEYOND", "ENDLESS"};
    private static int wrong = 0;

    public static void main(String[] args) throws Exception {
        due("the class is public and final", FlowCurves.class.getModifiers() == (Modifier.PUBLIC | Modifier.FINAL));
        methods();
        fields();
        constructors();
        classesInside();
        strangeArguments();
        System.out.println("FaceTest: " + wrong + " wrong");
        if (wrong != 0) {
            System.exit(1);
        }
    }

    private static void due(String what, boolean holds) {
        if (!holds) {
            wrong++;
            System.out.println("not so: " + what);
        }
    }

    private static void methods() {
        TreeSet<String> wanted = new TreeSet<>(java.util.List.of(METHODS));
        TreeSet<String> publicNames = new TreeSet<>();
        TreeSet<String> shown = new TreeSet<>();
        for (Method m : FlowCurves.class.getDeclaredMethods()) {
            if (!Modifier.isPrivate(m.getModifiers())) {
                due(m + " is public", Modifier.isPublic(m.getModifiers()) && !Modifier.isStatic(m.getModifiers()));
                publicNames.add(m.getName());
                StringBuilder face = new StringBuilder(m.getReturnType() + " " + m.getName() + "(");
                for (Class<?> type : m.getParameterTypes()) {
                    face.append(face.charAt(face.length() - 1) == '(' ? "" : ",").append(type);
                }
                shown.add(face.append(")").toString());
            }
        }
        due("the methods are " + wanted + ", not " + shown, wanted.equals(shown));
        for (Method m : FlowCurves.class.getDeclaredMethods()) {
            due("the private " + m.getName() + " has a name of its own",
                !Modifier.isPrivate(m.getModifiers()) || !publicNames.contains(m.getName()));
        }
    }

    private static void fields() throws Exception {
        for (int i = 0; i < CONSTANTS.length; i++) {
            Field f = FlowCurves.class.getField(CONSTANTS[i]);
            int modifiers = Modifier.PUBLIC | Modifier.STATIC | Modifier.FINAL;
            due(f + " is a constant int", f.getModifiers() == modifiers && f.getType() == int.class);
            due(f + " is " + (-1 - i), f.getInt(null) == -1 - i);
        }
        int shown = 0;
        for (Field f : FlowCurves.class.getDeclaredFields()) {
            shown += Modifier.isPrivate(f.getModifiers()) ? 0 : 1;
            due(f + " is final, being static", !Modifier.isStatic(f.getModifiers()) || Modifier.isFinal(f.getModifiers()));
        }
        due("five constants are shown", shown == CONSTANTS.length);
    }

    private static void constructors() {
        Constructor<?>[] all = FlowCurves.class.getDeclaredConstructors();
        due("one public constructor without arguments", all.length == 1
            && Modifier.isPublic(all[0].getModifiers()) && all[0].getParameterCount() == 0);
    }

    private static void classesInside() {
        Class<?>[] inside = FlowCurves.class.getDeclaredClasses();
        due("some twelve classes at most", inside.length <= 12);
        for (Class<?> c : inside) {
            int modifiers = c.getModifiers();
            due(c + " is static, not public or protected", Modifier.isStatic(modifiers)
                && !Modifier.isPublic(modifiers) && !Modifier.isProtected(modifiers));
        }
    }

    /** Every call with every mix of strange arguments, on a few objects in different states. */
    private static void strangeArguments() throws Exception {
        int[] strange = {Integer.MIN_VALUE, -1, 0, 1, 5, 60, 61, 200, 300, 600, 1000000000, Integer.MAX_VALUE};
        long[] strangeLong = {Long.MIN_VALUE, -1, 0, 7, 1000000000000L, 1000000000001L, Long.MAX_VALUE};
        for (Method m : FlowCurves.class.getDeclaredMethods()) {
            if (!Modifier.isPublic(m.getModifiers())) {
                continue;
            }
            Class<?>[] types = m.getParameterTypes();
            int mixes = 1;
            for (Class<?> type : types) {
                mixes *= type == int.class ? strange.length : strangeLong.length;
            }
            for (int state = 0; state < 4; state++) {
                for (int mix = 0; mix < mixes; mix++) {
                    Object[] arguments = new Object[types.length];
                    int left = mix;
                    for (int i = 0; i < types.length; i++) {
                        int kinds = types[i] == int.class ? strange.length : strangeLong.length;
                        if (types[i] == int.class) {
                            arguments[i] = strange[left % kinds];
                        } else {
                            arguments[i] = strangeLong[left % kinds];
                        }
                        left /= kinds;
                    }
                    try {
                        m.invoke(inState(state), arguments);
                    } catch (java.lang.reflect.InvocationTargetException e) {
                        due(m.getName() + java.util.Arrays.toString(arguments) + " threw " + e.getCause(), false);
                    }
                }
            }
        }
    }

    private static FlowCurves inState(int state) {
        FlowCurves x = new FlowCurves();
        if (state == 0) {
            return x;
        }
        x.put(1000000000000L);
        x.curve(1, 1000000000);
        x.draw(259, 3, 4);
        x.put(2000);
        x.curve(60, 1000000000);
        x.ray(1000000000);
        x.draw(300, 1, 1000000);
        if (state > 1) {
            x.hardest(2, 60);
            x.serve(1);
        }
        if (state > 2) {
            for (int i = 3; i < 60; i++) {
                x.ray(i);
            }
            x.serve(59);
        }
        return x;
    }
}
