import java.lang.reflect.Constructor;
import java.lang.reflect.Field;
import java.lang.reflect.Member;
import java.lang.reflect.Method;
import java.lang.reflect.Modifier;
import java.util.Arrays;
import java.util.TreeSet;

/** The public face, and promise 1: a new object has no circuit and no assertion. */
public final class FaceTest {
    private static final String[] FACE = {
        "REFUSED", "NONE", "FULL", "feed/5", "end/1", "circuit/0", "assertion/0", "fails/0", "excluded/0",
        "failing/1", "shortfall/2", "value/3", "matters/3", "cone/1", "count/1"
    };

    public static void main(String[] args) {
        constants();
        members();
        newObject();
        Drive.finish("FaceTest");
    }

    private static void constants() {
        Drive.due("REFUSED", TrajectoryCheck.REFUSED, -1);
        Drive.due("NONE", TrajectoryCheck.NONE, -2);
        Drive.due("FULL", TrajectoryCheck.FULL, -3);
    }

    private static void members() {
        Class<?> face = TrajectoryCheck.class;
        TreeSet<String> seen = new TreeSet<>();
        for (Field field : face.getDeclaredFields()) {
            if (isOpen(field)) {
                seen.add(field.getName());
                Drive.due(field.getName() + " is an int", field.getType() == int.class ? 1 : 0, 1);
            }
        }
        for (Method method : face.getDeclaredMethods()) {
            if (isOpen(method)) {
                seen.add(method.getName() + "/" + method.getParameterCount());
                Drive.due(method.getName() + " answers an int", method.getReturnType() == int.class ? 1 : 0, 1);
            }
        }
        TreeSet<String> wanted = new TreeSet<>(Arrays.asList(FACE));
        Drive.due("the face " + seen, seen.equals(wanted) ? 1 : 0, 1);
        Constructor<?>[] makers = face.getDeclaredConstructors();
        Drive.due("constructors", makers.length, 1);
        Drive.due("its parameters", makers[0].getParameterCount(), 0);
        Drive.due("it is public", Modifier.isPublic(makers[0].getModifiers()) ? 1 : 0, 1);
        Drive.due("the class is final", Modifier.isFinal(face.getModifiers()) ? 1 : 0, 1);
    }

    private static boolean isOpen(Member member) {
        return !Modifier.isPrivate(member.getModifiers()) && !member.isSynthetic();
    }

    private static void newObject() {
        TrajectoryCheck x = new TrajectoryCheck();
        for (int what = 0; what <= 7; what++) {
            Drive.due("new: count " + what, x.count(what), 0);
        }
        Drive.due("new: fails", x.fails(), -1);
        Drive.due("new: excluded", x.excluded(), -1);
        Drive.due("new: failing", x.failing(0), -2);
        Drive.due("new: shortfall", x.shortfall(0, 0), -2);
        Drive.due("new: shortfall of another what", x.shortfall(0, -1), -1);
        Drive.due("new: value", x.value(0, 0, 0), -2);
        Drive.due("new: matters", x.matters(0, 0, 0), -2);
        Drive.due("new: cone", x.cone(0), -2);
        Drive.due("new: end of an empty tape", x.end(0), 0);
        Drive.due("new: end behind it", x.end(1), -1);
        Drive.due("new: no name is a node", faultOfClause(x), 6);
        Drive.due("one object", with(), 1);
        Drive.due("leaves another as it is", x.count(0), 0);
    }

    private static int faultOfClause(TrajectoryCheck x) {
        Drive.put(x, "given a is 1 then a is 1.", 0);
        return x.assertion();
    }

    private static int with() {
        return Drive.with("input a;").count(0);
    }
}
