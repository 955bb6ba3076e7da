import java.lang.reflect.Constructor;
import java.lang.reflect.Field;
import java.lang.reflect.InvocationTargetException;
import java.lang.reflect.Method;
import java.lang.reflect.Modifier;
import java.util.ArrayList;
import java.util.Arrays;
import java.util.List;
import java.util.Random;
import java.util.TreeSet;

/** The public face as the document has it, and that no call throws what it does not name. */
public final class FaceTest {
    private static final String[] FACE = {
        "int wholes(long, long)", "int signs(int, int)", "int names(int, int, int)", "int steps(long, long, int)",
        "int back(int)", "int pair(int, int)", "int triple(int, int, int)", "int told(int, int)", "long size(int)",
        "long hold(int, long) throws ArrayIndexOutOfBoundsException", "long held(int) throws ArrayIndexOutOfBoundsException",
        "long index(int) throws IndexOutOfBoundsException", "int has(int)",
        "int element(int, long) throws IndexOutOfBoundsException", "long go(int, long) throws IndexOutOfBoundsException",
        "int miss(int)", "int within(int, int)",
        "int array(int) throws NegativeArraySizeException, IllegalArgumentException",
        "int put(int, int) throws IndexOutOfBoundsException", "int at(int) throws IndexOutOfBoundsException",
        "long sum(int, int, long)", "int over(int)", "int count(int)", "int clear()"};

    private static final String[] CONSTANTS = {"UNKNOWN = -101", "OUTSIDE = -102", "STATE = -103", "ROOM = -104", "MANY = -1"};

    private static int wrong;

    private static void check(boolean well, String what) {
        if (!well) {
            wrong++;
            System.out.println(what);
        }
    }

    private static String names(Class<?>[] types) {
        List<String> all = new ArrayList<>();
        for (Class<?> type : types) {
            all.add(type.getSimpleName());
        }
        return String.join(", ", all);
    }

    private static String told(Method m) {
        String thrown = names(m.getExceptionTypes());
        return m.getReturnType().getSimpleName() + " " + m.getName() + "(" + names(m.getParameterTypes()) + ")"
            + (thrown.isEmpty() ? "" : " throws " + thrown);
    }

    private static void methodsAreTheDocuments() {
        TreeSet<String> open = new TreeSet<>();
        TreeSet<String> openNames = new TreeSet<>();
        for (Method m : IndexRanges.class.getDeclaredMethods()) {
            if (!Modifier.isPrivate(m.getModifiers())) {
                check(Modifier.isPublic(m.getModifiers()) && !Modifier.isStatic(m.getModifiers()), "not as told: " + m);
                open.add(told(m));
                openNames.add(m.getName());
            }
        }
        check(open.equals(new TreeSet<>(Arrays.asList(FACE))), "the methods are " + open);
        List<Class<?>> all = new ArrayList<>(Arrays.asList(IndexRanges.class.getDeclaredClasses()));
        all.add(IndexRanges.class);
        for (Class<?> type : all) {
            for (Method m : type.getDeclaredMethods()) {
                boolean hidden = type != IndexRanges.class || Modifier.isPrivate(m.getModifiers());
                check(!hidden || !openNames.contains(m.getName()), "bears a public method's name: " + m);
            }
        }
    }

    private static void constantsAreTheDocuments() throws IllegalAccessException {
        TreeSet<String> open = new TreeSet<>();
        for (Field f : IndexRanges.class.getDeclaredFields()) {
            boolean fixed = Modifier.isStatic(f.getModifiers()) && Modifier.isFinal(f.getModifiers());
            if (!Modifier.isPrivate(f.getModifiers())) {
                check(fixed && Modifier.isPublic(f.getModifiers()) && f.getType() == int.class, "not as told: " + f);
                open.add(f.getName() + " = " + f.getInt(null));
            }
            check(fixed || !Modifier.isStatic(f.getModifiers()), "static state: " + f);
        }
        check(open.equals(new TreeSet<>(Arrays.asList(CONSTANTS))), "the constants are " + open);
    }

    private static void classIsTheDocuments() {
        int marks = IndexRanges.class.getModifiers();
        check(Modifier.isPublic(marks) && Modifier.isFinal(marks), "the class is not public and final");
        Constructor<?>[] made = IndexRanges.class.getDeclaredConstructors();
        boolean one = made.length == 1 && made[0].getParameterCount() == 0 && Modifier.isPublic(made[0].getModifiers());
        check(one, "the constructors are " + Arrays.toString(made));
        for (Class<?> inside : IndexRanges.class.getDeclaredClasses()) {
            boolean well = Modifier.isStatic(inside.getModifiers()) && !Modifier.isPublic(inside.getModifiers());
            check(well, "not static, or public: " + inside);
        }
    }

    private static Object argument(Random random, Class<?> type) {
        long[] edges = {0, 1, -1, 2, 7, 8, 20, 21, 39, 40, 41, 400, 65535, 65536, 1000000, 1000001, Integer.MAX_VALUE,
            Integer.MIN_VALUE, Long.MAX_VALUE, Long.MIN_VALUE};
        long v = random.nextInt(3) == 0 ? edges[random.nextInt(edges.length)] : random.nextInt(10);
        if (type == int.class) {
            return (int) v;
        }
        return v;
    }

    /** The machine's own exceptions bear the machine's texts; those of a throw statement bear the program's. */
    private static boolean isThrownByTheProgram(Throwable e, Method m) {
        String text = e.getMessage();
        boolean named = Arrays.asList(m.getExceptionTypes()).contains(e.getClass());
        return named && text != null && text.startsWith("the ") && e.getStackTrace()[0].getMethodName().equals(m.getName());
    }

    private static void nothingElseIsThrown() throws IllegalAccessException {
        List<Method> calls = new ArrayList<>();
        for (String face : FACE) {
            for (Method m : IndexRanges.class.getDeclaredMethods()) {
                if (told(m).equals(face)) {
                    calls.add(m);
                }
            }
        }
        for (int run = 0; run < 400; run++) {
            Random random = new Random(run);
            IndexRanges x = new IndexRanges();
            for (int c = 0; c < 511; c++) {
                Method m = calls.get(random.nextInt(calls.size() - (random.nextInt(9) == 0 ? 0 : 1)));
                Object[] arguments = new Object[m.getParameterCount()];
                for (int i = 0; i < arguments.length; i++) {
                    arguments[i] = argument(random, m.getParameterTypes()[i]);
                }
                try {
                    m.invoke(x, arguments);
                } catch (InvocationTargetException e) {
                    boolean well = isThrownByTheProgram(e.getCause(), m);
                    check(well, "run " + run + ": " + m.getName() + Arrays.toString(arguments) + " threw " + e.getCause());
                }
            }
        }
    }

    /** A chain of BACKs is the deepest RANGE that there can be. */
    private static void deepestRangeAnswers() {
        IndexRanges x = new IndexRanges();
        x.wholes(1, 400);
        for (int k = 0; k < 39; k++) {
            check(x.back(k) == k + 1, "back(" + k + ") in the chain");
        }
        check(x.back(39) == IndexRanges.ROOM, "a 41st RANGE");
        check(x.element(39, 0) == 1 && x.held(0) == 400, "element of the deepest one");
        check(x.index(39) == 0, "index in the deepest one");
        check(x.within(39, 0) == 1, "the deepest one within the first");
        x.array(39);
        x.put(0, 6);
        check(x.sum(0, 0, 400) == 6, "sum over the deepest one");
        x.hold(0, 0);
        check(x.has(39) == 0 && x.miss(0) == 0 && x.miss(2) == 39, "how DEEP the first one lies");
    }

    public static void main(String[] args) throws IllegalAccessException {
        classIsTheDocuments();
        methodsAreTheDocuments();
        constantsAreTheDocuments();
        nothingElseIsThrown();
        deepestRangeAnswers();
        System.out.println(wrong == 0 ? "the face is as told" : wrong + " things are not as told");
        if (wrong != 0) {
            System.exit(1);
        }
    }
}
