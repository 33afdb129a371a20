import java.lang.reflect.Constructor;
import java.lang.reflect.Field;
import java.lang.reflect.Method;
import java.lang.reflect.Modifier;
import java.util.ArrayList;
import java.util.Collections;
import java.util.List;

/** The public face: the class has just the members that the document gives, with their throws. */
public final class FaceTest {
    private static final Check CHECK = new Check();
    private static final String INDEX = " throws IndexOutOfBoundsException";
    private static final String ARGUMENT = " throws IllegalArgumentException";
    private static final String ARITHMETIC = " throws ArithmeticException";

    private static final List<String> FACE = List.of(
            "int setSize(int)" + ARGUMENT,
            "int size()",
            "int setCoefficient(int int int)" + INDEX + ARGUMENT,
            "int coefficient(int int)" + INDEX,
            "boolean setRight(int int int)" + INDEX + ARGUMENT,
            "int rightLow(int)" + INDEX,
            "int rightHigh(int)" + INDEX,
            "int setSpread(int int int)" + INDEX + ARGUMENT,
            "boolean swapRows(int int)" + INDEX,
            "int addRow(int int int)" + INDEX + ARGUMENT + ARITHMETIC,
            "long determinant()",
            "long lowNumerator(int)" + INDEX + ARITHMETIC,
            "long lowDenominator(int)" + INDEX + ARITHMETIC,
            "long highNumerator(int)" + INDEX + ARITHMETIC,
            "long highDenominator(int)" + INDEX + ARITHMETIC,
            "long inverseNumerator(int int)" + INDEX + ARITHMETIC,
            "long inverseDenominator(int int)" + INDEX + ARITHMETIC,
            "boolean isSolution(int int int int int)",
            "double condition()" + ARITHMETIC,
            "long variationNumerator()" + ARITHMETIC,
            "long variationDenominator()" + ARITHMETIC,
            "boolean isSafe()",
            "boolean isDominant()",
            "boolean setBox(int int int)" + INDEX + ARGUMENT,
            "int boxLow(int)" + INDEX,
            "int boxHigh(int)" + INDEX,
            "int sweep()",
            "int contract(int)" + ARGUMENT,
            "int sharpen()" + ARITHMETIC,
            "boolean isCertified()" + ARITHMETIC,
            "long residualLow(int)" + INDEX,
            "long residualHigh(int)" + INDEX,
            "long digest()");

    public static void main(String[] args) {
        Class<IntervalSolver> face = IntervalSolver.class;
        CHECK.due("modifiers of the class", face.getModifiers(), Modifier.PUBLIC | Modifier.FINAL);
        methods(face);
        constructors(face);
        for (Field field : face.getDeclaredFields()) {
            CHECK.due(field.getName() + " is private", Modifier.isPrivate(field.getModifiers()), true);
            if (Modifier.isStatic(field.getModifiers())) {
                CHECK.due(field.getName() + " is final", Modifier.isFinal(field.getModifiers()), true);
            }
        }
        CHECK.end();
    }

    private static void methods(Class<IntervalSolver> face) {
        List<String> found = new ArrayList<>();
        List<String> privateNames = new ArrayList<>();
        for (Method method : face.getDeclaredMethods()) {
            if (Modifier.isPrivate(method.getModifiers())) {
                privateNames.add(method.getName());
            } else {
                CHECK.due("modifiers of " + method.getName(), method.getModifiers(), Modifier.PUBLIC);
                found.add(method.getReturnType().getSimpleName() + " " + told(method));
            }
        }
        List<String> due = new ArrayList<>(FACE);
        Collections.sort(due);
        Collections.sort(found);
        CHECK.due("the methods", String.join("\n", found), String.join("\n", due));
        for (String name : privateNames) {
            for (Method method : face.getMethods()) {
                CHECK.due("the private name " + name + " is a public one", name.equals(method.getName()), false);
            }
        }
    }

    private static String told(Method method) {
        List<String> parameters = new ArrayList<>();
        for (Class<?> type : method.getParameterTypes()) {
            parameters.add(type.getSimpleName());
        }
        StringBuilder text = new StringBuilder(method.getName());
        text.append('(').append(String.join(" ", parameters)).append(')');
        for (Class<?> type : method.getExceptionTypes()) {
            text.append(" throws ").append(type.getSimpleName());
        }
        return text.toString();
    }

    private static void constructors(Class<IntervalSolver> face) {
        Constructor<?>[] all = face.getDeclaredConstructors();
        CHECK.due("the number of constructors", all.length, 1);
        CHECK.due("its parameters", all[0].getParameterCount(), 0);
        CHECK.due("its modifiers", all[0].getModifiers(), Modifier.PUBLIC);
        CHECK.due("its exceptions", all[0].getExceptionTypes().length, 0);
    }
}
