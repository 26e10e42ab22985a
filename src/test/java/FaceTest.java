import java.lang.reflect.Constructor;
import java.lang.reflect.Executable;
import java.lang.reflect.Field;
import java.lang.reflect.Method;
import java.lang.reflect.Modifier;
import java.util.ArrayList;
import java.util.Collections;
import java.util.List;
import java.util.regex.Matcher;
import java.util.regex.Pattern;

/** The public face that the document shows, in its groups, and nothing beside it (rule 1 of LANGUAGE.md). */
public final class FaceTest {
    private static final Pattern NAME = Pattern.compile(" (\\w+)\\(");

    public static void main(String[] args) {
        Class<FlowerClock> face = FlowerClock.class;
        List<String> due = Document.code(Document.text());
        Checks.same("lines of the document's face", due.size(), 32);
        Checks.sameText("its first line", due.get(0), "public final class FlowerClock {");
        Checks.same("the class is public and final", face.getModifiers(), Modifier.PUBLIC | Modifier.FINAL);
        membersAreTheFace(face, due.subList(1, due.size() - 1));
        constantsAreNone(face);
        for (Class<?> inside : face.getDeclaredClasses()) {
            int open = inside.getModifiers() & (Modifier.PUBLIC | Modifier.PROTECTED);
            Checks.same(inside.getName() + " is not open", open, 0);
            Checks.same(inside.getName() + " is static", inside.getModifiers() & Modifier.STATIC, Modifier.STATIC);
        }
        callsStandInTheirGroups();
        Checks.end("FaceTest");
    }

    private static void membersAreTheFace(Class<?> face, List<String> shown) {
        List<String> due = new ArrayList<>();
        List<String> names = new ArrayList<>();
        for (String line : shown) {
            // "public int worth(int buyer, int lot);" is held as "public int worth(int, int)"
            due.add(line.replaceAll("(int|long) \\w+([,)])", "$1$2").replace(";", ""));
            names.add(nameIn(line));
        }
        List<String> got = new ArrayList<>();
        for (Constructor<?> constructor : face.getDeclaredConstructors()) {
            got.add(told(constructor, "public FlowerClock"));
        }
        for (Method method : face.getDeclaredMethods()) {
            if (Modifier.isPrivate(method.getModifiers())) {
                Checks.same(method.getName() + " is no name of the face", names.contains(method.getName()) ? 1 : 0, 0);
            } else {
                String type = method.getReturnType().getSimpleName();
                got.add(told(method, Modifier.toString(method.getModifiers()) + " " + type + " " + method.getName()));
            }
        }
        Collections.sort(due);
        Collections.sort(got);
        Checks.sameText("the face", String.join("\n", got), String.join("\n", due));
    }

    /** The document's face has no constants, so no field is open. */
    private static void constantsAreNone(Class<?> face) {
        for (Field field : face.getDeclaredFields()) {
            Checks.same(field.getName() + " is private", field.getModifiers() & Modifier.PRIVATE, Modifier.PRIVATE);
        }
    }

    /** "Ahead of the calls .. the interface says: .." tells a group: so it stands in the program, too. */
    private static void callsStandInTheirGroups() {
        String program = Document.read(Document.PROGRAM);
        Matcher group = Pattern.compile("(?m)^Ahead of the calls (.*) the interface says: (.*)\\.$").matcher(Document.text());
        int groups = 0;
        int last = 0;
        while (group.find()) {
            int head = program.indexOf("// " + group.group(2) + "\n");
            Checks.same(group.group(2) + " stands behind all before", head > last ? 1 : 0, 1);
            last = head;
            Matcher call = Pattern.compile("`(\\w+)`").matcher(group.group(1));
            while (call.find()) {
                Matcher place = Pattern.compile("\n    public \\w+ " + call.group(1) + "\\(").matcher(program);
                int stands = place.find() ? place.start() : -1;
                Checks.same(call.group(1) + " stands in its place", stands > last ? 1 : 0, 1);
                last = Math.max(stands, last);
            }
            groups++;
        }
        Checks.same("groups", groups, 3);
    }

    private static String nameIn(String line) {
        Matcher name = NAME.matcher(line);
        return name.find() ? name.group(1) : "";
    }

    private static String told(Executable executable, String head) {
        return head + "(" + names(executable.getParameterTypes()) + ")"
            + (executable.getExceptionTypes().length == 0 ? "" : " throws " + names(executable.getExceptionTypes()));
    }

    private static String names(Class<?>[] types) {
        List<String> names = new ArrayList<>();
        for (Class<?> type : types) {
            names.add(type.getSimpleName());
        }
        return String.join(", ", names);
    }
}
