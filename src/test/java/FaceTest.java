import java.lang.reflect.Constructor;
import java.lang.reflect.Field;
import java.lang.reflect.Member;
import java.lang.reflect.Method;
import java.lang.reflect.Modifier;
import java.util.Arrays;
import java.util.TreeSet;

/** The public face, and promise 1: a new object has no circuit and no assertion. */
public final class FaceTest {
    private static final String[] FACE = {
        "REFUSED", "NONE", "FULL", "feed/5", "end/1", "circuit/0", "assertion/0", "fails/0", "excluded/0",
        "failing/1", "shortfall/2", "value/3", "matters/3", "cone/1", "count/1"
    };

    private static final Class<?> FACE_CLASS = TrajectoryCheck.class;

    public static void main(String[] args) {
        constants();
        members();
        form();
        newObject();
        Drive.finish("FaceTest");
    }

    private static void constants() {
        Drive.due("REFUSED", TrajectoryCheck.REFUSED, -1);
        Drive.due("NONE", TrajectoryCheck.NONE, -2);
        Drive.due("FULL", TrajectoryCheck.FULL, -3);
    }

    private static void members() {
        TreeSet<String> seen = new TreeSet<>();
        for (Field field : FACE_CLASS.getDeclaredFields()) {
            if (isOpen(field)) {
                seen.add(field.getName());
                holds(field.getName() + " is an int", field.getType() == int.class);
                holds(field.getName() + " is a public constant", isPublic(field) && isStatic(field) && isFinal(field));
            }
        }
        for (Method method : FACE_CLASS.getDeclaredMethods()) {
            if (isOpen(method)) {
                seen.add(method.getName() + "/" + method.getParameterCount());
                holds(method.getName() + " answers an int", method.getReturnType() == int.class);
                holds(method.getName() + " is public, of an object", isPublic(method) && !isStatic(method));
                holds(method.getName() + " takes ints", takesInts(method));
            }
        }
        TreeSet<String> wanted = new TreeSet<>(Arrays.asList(FACE));
        holds("the face " + seen, seen.equals(wanted));
        Constructor<?>[] makers = FACE_CLASS.getDeclaredConstructors();
        Drive.due("constructors", makers.length, 1);
        Drive.due("its parameters", makers[0].getParameterCount(), 0);
        holds("it is public", isPublic(makers[0]));
    }

    private static void form() {
        holds("the class is public", Modifier.isPublic(FACE_CLASS.getModifiers()));
        holds("the class is final", Modifier.isFinal(FACE_CLASS.getModifiers()));
        holds("the class has no package", FACE_CLASS.getPackageName().isEmpty());
        for (Class<?> inside : FACE_CLASS.getDeclaredClasses()) {
            int modifiers = inside.getModifiers();
            holds(inside + " is static", Modifier.isStatic(modifiers));
            holds(inside + " is not seen", !Modifier.isPublic(modifiers) && !Modifier.isProtected(modifiers));
            for (Method method : inside.getDeclaredMethods()) {
                boolean alike = Arrays.stream(FACE).anyMatch(name -> name.startsWith(method.getName() + "/"));
                holds(inside + "." + method.getName() + " has a name of its own", !alike);
            }
        }
    }

    private static void holds(String what, boolean answer) {
        Drive.due(what, answer ? 1 : 0, 1);
    }

    private static boolean takesInts(Method method) {
        return Arrays.stream(method.getParameterTypes()).allMatch(type -> type == int.class);
    }

    private static boolean isPublic(Member member) {
        return Modifier.isPublic(member.getModifiers());
    }

    private static boolean isStatic(Member member) {
        return Modifier.isStatic(member.getModifiers());
    }

    private static boolean isFinal(Member member) {
        return Modifier.isFinal(member.getModifiers());
    }

    private static boolean isOpen(Member member) {
        return !Modifier.isPrivate(member.getModifiers()) && !member.isSynthetic();
    }

    private static void newObject() {
        TrajectoryCheck x = new TrajectoryCheck();
        for (int what = 0; what <= 7; what++) {
            Drive.due("new: count " + what, x.count(what), 0);
        }
        Drive.due("new: fails", x.fails(), -1);
        Drive.due("new: excluded", x.excluded(), -1);
        Drive.due("new: failing", x.failing(0), -2);
        Drive.due("new: shortfall", x.shortfall(0, 0), -2);
        Drive.due("new: shortfall of another what", x.shortfall(0, -1), -1);
        Drive.due("new: value", x.value(0, 0, 0), -2);
        Drive.due("new: matters", x.matters(0, 0, 0), -2);
        Drive.due("new: cone", x.cone(0), -2);
        Drive.due("new: end of an empty tape", x.end(0), 0);
        Drive.due("new: end behind it", x.end(1), -1);
        Drive.due("new: no name is a node", faultOfClause(x), 6);
        Drive.due("one object", with(), 1);
        Drive.due("leaves another as it is", x.count(0), 0);
    }

    private static int faultOfClause(TrajectoryCheck x) {
        Drive.put(x, "given a is 1 then a is 1.", 0);
        return x.assertion();
    }

    private static int with() {
        return Drive.with("input a;").count(0);
    }
}
