import java.lang.reflect.Constructor;
import java.lang.reflect.Field;
import java.lang.reflect.Member;
import java.lang.reflect.Method;
import java.lang.reflect.Modifier;
import java.util.ArrayList;
import java.util.Arrays;
import java.util.Collections;
import java.util.List;

/** The public face is the document's, and nothing but it can be seen from outside. */
public final class FaceTest {
    private static final Check CHECK = new Check("FaceTest");
    private static final String METHODS = "int back(1), int bus(2), int count(1), long current(6), int drop(1), int erase(0), int fault(0), "
        + "long fold(3), int join(0), int keep(1), int load(3), int match(1), int most(1), int net(0), int phase(5), int put(4), "
        + "int sag(4), int split(0), int store(1), int sum(2), int take(2), long told(3), int trips(3), int turn(0), int undo(0), "
        + "long voltage(7), int worst(2), int write(1)";

    public static void main(String[] args) throws IllegalAccessException {
        CHECK.holds("public and final", Modifier.isPublic(FaultDesk.class.getModifiers()) && Modifier.isFinal(FaultDesk.class.getModifiers()));
        constants();
        methods();
        for (Constructor<?> constructor : FaultDesk.class.getDeclaredConstructors()) {
            CHECK.holds("a constructor without parameters", isPublic(constructor) && constructor.getParameterCount() == 0);
        }
        for (Class<?> inside : FaultDesk.class.getDeclaredClasses()) {
            CHECK.holds(inside + " is static", Modifier.isStatic(inside.getModifiers()));
            CHECK.holds(inside + " is not public", !Modifier.isPublic(inside.getModifiers()) && !Modifier.isProtected(inside.getModifiers()));
        }
        CHECK.end();
    }

    private static boolean isPublic(Member member) {
        return Modifier.isPublic(member.getModifiers());
    }

    private static void constants() throws IllegalAccessException {
        CHECK.due("NONE", FaultDesk.NONE, -1);
        CHECK.due("UNKNOWN", FaultDesk.UNKNOWN, -2000000001);
        CHECK.due("OUTSIDE", FaultDesk.OUTSIDE, -2000000002);
        CHECK.due("NOT", FaultDesk.NOT, -2000000003);
        CHECK.due("OVER", FaultDesk.OVER, -2000000004);
        CHECK.due("NULL", FaultDesk.NULL, -2000000011);
        CHECK.due("EMPTY", FaultDesk.EMPTY, -2000000012);
        CHECK.due("CAST", FaultDesk.CAST, -2000000013);
        CHECK.due("ROOM", FaultDesk.ROOM, -2000000014);
        List<String> names = new ArrayList<>();
        for (Field field : FaultDesk.class.getDeclaredFields()) {
            if (!Modifier.isPrivate(field.getModifiers())) {
                names.add(field.getName());
            }
        }
        Collections.sort(names);
        CHECK.holds("the constants: " + names, names.equals(List.of("CAST", "EMPTY", "NONE", "NOT", "NULL", "OUTSIDE", "OVER", "ROOM", "UNKNOWN")));
    }

    private static void methods() {
        List<String> found = new ArrayList<>();
        List<String> hidden = new ArrayList<>();
        for (Method method : FaultDesk.class.getDeclaredMethods()) {
            if (Modifier.isPrivate(method.getModifiers())) {
                hidden.add(method.getName());
            } else {
                CHECK.holds(method + " is public", isPublic(method));
                found.add(method.getReturnType() + " " + method.getName() + "(" + method.getParameterCount() + ")");
            }
        }
        List<String> due = new ArrayList<>(Arrays.asList(METHODS.split(", ")));
        Collections.sort(found);
        Collections.sort(due);
        CHECK.holds("the methods: " + found, found.equals(due));
        for (String name : hidden) {
            CHECK.holds(name + " is no name of the face", !METHODS.contains(" " + name + "("));
        }
    }
}
