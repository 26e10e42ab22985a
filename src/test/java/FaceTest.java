import java.lang.reflect.Constructor;
import java.lang.reflect.Field;
import java.lang.reflect.Method;
import java.lang.reflect.Modifier;
import java.util.ArrayList;
import java.util.Arrays;
import java.util.Collections;
import java.util.List;

/** The public face of the document and nothing beside it (rule 1 of LANGUAGE.md). */
public final class FaceTest {
    private static final String[] FACE = {
        "int grower(int)", "int lot(int, int, int, int)", "int found(int, int)", "int buyer(int)",
        "int want(int, int, int, int)", "int credit(int, int)", "int worth(int, int)", "int look(int, int)",
        "int about(int, int)", "long takings(int) throws IllegalArgumentException", "int sell(int)", "int round(int)",
        "int place(int, int)", "long would(int) throws IllegalArgumentException, IllegalStateException",
        "int foretold(int)", "int first(int)", "int close()", "int payment(int, int)", "int claim(int, int)",
        "int cart(int)", "int dock(int)", "long bill(int, int) throws IllegalArgumentException", "int count(int)",
        "int keep(int, int, int)", "int make(int, int, int)",
        "long element(int, int) throws IllegalArgumentException, IllegalStateException",
        "int copy(int, int, int, int, int)", "int weight(int)", "int toss(int)"};

    public static void main(String[] args) {
        Class<FlowerClock> face = FlowerClock.class;
        Checks.same("the class is public and final", face.getModifiers(), Modifier.PUBLIC | Modifier.FINAL);
        Constructor<?>[] constructors = face.getDeclaredConstructors();
        Checks.same("constructors", constructors.length, 1);
        Checks.same("its parameters", constructors[0].getParameterCount(), 0);
        Checks.same("it is public", constructors[0].getModifiers(), Modifier.PUBLIC);
        methodsAreTheFace(face);
        for (Field field : face.getDeclaredFields()) {
            Checks.same(field.getName() + " is private", field.getModifiers() & Modifier.PRIVATE, Modifier.PRIVATE);
        }
        for (Class<?> inside : face.getDeclaredClasses()) {
            int open = inside.getModifiers() & (Modifier.PUBLIC | Modifier.PROTECTED);
            Checks.same(inside.getName() + " is not open", open, 0);
            Checks.same(inside.getName() + " is static", inside.getModifiers() & Modifier.STATIC, Modifier.STATIC);
        }
        Checks.end("FaceTest");
    }

    private static void methodsAreTheFace(Class<?> face) {
        List<String> due = new ArrayList<>(Arrays.asList(FACE));
        List<String> got = new ArrayList<>();
        for (Method method : face.getDeclaredMethods()) {
            if (!Modifier.isPrivate(method.getModifiers())) {
                got.add(told(method));
                Checks.same(method.getName() + " is public alone", method.getModifiers(), Modifier.PUBLIC);
            } else {
                boolean taken = due.stream().anyMatch(one -> one.contains(" " + method.getName() + "("));
                Checks.same(method.getName() + " is no name of the face", taken ? 1 : 0, 0);
            }
        }
        Collections.sort(due);
        Collections.sort(got);
        Checks.sameText("the face", String.join("\n", got), String.join("\n", due));
    }

    private static String told(Method method) {
        List<String> parameters = new ArrayList<>();
        for (Class<?> type : method.getParameterTypes()) {
            parameters.add(type.getSimpleName());
        }
        List<String> thrown = new ArrayList<>();
        for (Class<?> type : method.getExceptionTypes()) {
            thrown.add(type.getSimpleName());
        }
        return method.getReturnType().getSimpleName() + " " + method.getName() + "(" + String.join(", ", parameters) + ")"
            + (thrown.isEmpty() ? "" : " throws " + String.join(", ", thrown));
    }
}
