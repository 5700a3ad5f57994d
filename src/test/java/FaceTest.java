import java.lang.reflect.Constructor;
import java.lang.reflect.Field;
import java.lang.reflect.Method;
import java.lang.reflect.Modifier;
import java.util.ArrayList;
import java.util.Arrays;
import java.util.List;
import java.util.TreeSet;

/** The public face is that of the document, and nothing else of the class can be reached from outside it. */
public final class FaceTest extends Checks {
    private static final String UNSUPPORTED = " throws UnsupportedOperationException";
    private static final String BOUNDS = " throws IndexOutOfBoundsException";
    private static final String ARGUMENT = " throws IllegalArgumentException";
    private static final String ELEMENT = " throws NoSuchElementException";
    private static final String STATE = " throws IllegalStateException";

    private static final String[] FACE = {
        "int stone(int, int, int)" + UNSUPPORTED, "int flood(int, int, int)" + UNSUPPORTED,
        "int epoch(int, int)" + UNSUPPORTED, "int chisel()" + UNSUPPORTED, "int cut(int, int, int)" + UNSUPPORTED,
        "int efface(int, int)" + UNSUPPORTED, "int sharpen(int)" + UNSUPPORTED, "int check(int)" + UNSUPPORTED,
        "int witness(int, int)" + UNSUPPORTED, "int years(int)" + UNSUPPORTED,
        "int stoneOf(int, int)" + BOUNDS + ", IllegalArgumentException",
        "int floodOf(int, int)" + BOUNDS + ", IllegalArgumentException", "int floodIn(int)" + ELEMENT,
        "int before(int)" + ELEMENT, "int edge(int)" + BOUNDS,
        "int markOf(int, int, int)" + BOUNDS + ", IllegalArgumentException, NoSuchElementException",
        "int mark(int, int)" + BOUNDS + ", NoSuchElementException", "int level(int, int)" + BOUNDS,
        "int reads(int, int)" + BOUNDS, "int shift(int)" + ARGUMENT,
        "int errorIn(int, int)" + BOUNDS + ", IllegalArgumentException", "boolean rises(int)" + BOUNDS,
        "int ranked(int)" + ELEMENT, "int doubts()", "int doubtsAgain()", "int append(char)" + STATE,
        "int commands()" + ARGUMENT + ", UnsupportedOperationException", "int faultPosition()",
        "int reason(int)" + ARGUMENT + ", NoSuchElementException", "int line(int)" + BOUNDS,
        "char character(int)" + BOUNDS, "double estimate(int)" + BOUNDS + ", ArithmeticException",
        "float meanEdge() throws ArithmeticException", "int account(int)" + ARGUMENT, "int undo()" + STATE,
        "int save()", "int restore()" + STATE};

    private static String namesOf(Class<?>[] types) {
        List<String> names = new ArrayList<>();
        for (Class<?> type : types) {
            names.add(type.getSimpleName());
        }
        return String.join(", ", names);
    }

    private static String signatureOf(Method method) {
        String thrown = namesOf(method.getExceptionTypes());
        return method.getReturnType().getSimpleName() + " " + method.getName() + "("
                + namesOf(method.getParameterTypes()) + ")" + (thrown.isEmpty() ? "" : " throws " + thrown);
    }

    private static void methodsAreThoseOfTheFace() {
        TreeSet<String> want = new TreeSet<>(Arrays.asList(FACE));
        TreeSet<String> got = new TreeSet<>();
        TreeSet<String> names = new TreeSet<>();
        for (Method method : FloodStones.class.getDeclaredMethods()) {
            if (!Modifier.isPrivate(method.getModifiers()) && !method.isSynthetic()) {
                got.add(signatureOf(method));
                names.add(method.getName());
                due(Modifier.PUBLIC, method::getModifiers);
            }
        }
        for (String signature : want) {
            due(1, () -> got.contains(signature) ? 1 : 0);
        }
        due(37, got::size);
        due(37, names::size);
        for (Method method : FloodStones.class.getDeclaredMethods()) {
            if (Modifier.isPrivate(method.getModifiers())) {
                due(0, () -> names.contains(method.getName()) ? 1 : 0);
            }
        }
    }

    private static void nothingElseCanBeReached() {
        due(Modifier.PUBLIC | Modifier.FINAL, FloodStones.class::getModifiers);
        due(0, () -> FloodStones.class.getInterfaces().length);
        due(1, () -> FloodStones.class.getSuperclass() == Object.class ? 1 : 0);
        Constructor<?>[] constructors = FloodStones.class.getDeclaredConstructors();
        due(1, () -> constructors.length);
        due(Modifier.PUBLIC, () -> constructors[0].getModifiers());
        due(0, () -> constructors[0].getParameterCount());
        due(0, () -> constructors[0].getExceptionTypes().length);
        for (Field field : FloodStones.class.getDeclaredFields()) {
            due(1, () -> Modifier.isPrivate(field.getModifiers()) ? 1 : 0);
            due(1, () -> !Modifier.isStatic(field.getModifiers()) || Modifier.isFinal(field.getModifiers()) ? 1 : 0);
        }
        for (Class<?> inside : FloodStones.class.getDeclaredClasses()) {
            due(0, () -> inside.getModifiers() & (Modifier.PUBLIC | Modifier.PROTECTED));
            for (Field field : inside.getDeclaredFields()) {
                due(1, () -> !Modifier.isStatic(field.getModifiers())
                        || Modifier.isFinal(field.getModifiers()) ? 1 : 0);
            }
        }
    }

    public static void main(String[] args) {
        methodsAreThoseOfTheFace();
        nothingElseCanBeReached();
        report();
    }
}
