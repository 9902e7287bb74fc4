import java.lang.reflect.Constructor;
import java.lang.reflect.Field;
import java.lang.reflect.Member;
import java.lang.reflect.Method;
import java.lang.reflect.Modifier;
import java.util.Set;
import java.util.TreeSet;

/** The face is that of the document, and nothing else is seen from outside (rules 1 and 5 of LANGUAGE.md). */
final class FaceTest {
    private static final String[] FACE = {
        "int addDrive(int)", "int addTape(int,int)", "int addCleaner(int,int)", "int refill(int,int)",
        "int setLimit(int)", "int setCeiling(int,int)", "int setOrder(int,int)", "int read(int)",
        "int clean(int)", "int move(int,int)", "int putOff(int,int)", "int withdraw(int)", "int tick(int)",
        "int type(char)", "int clearText()", "int readJobs()", "int undo()", "int keep()", "int restore()",
        "int item(int,int)", "int homeOf(int)", "int drive(int,int)", "float dust(int)", "float ceiling(int)",
        "float meter(int)", "int job(int,int)", "int order(int)", "int next()", "int mayGo(int)",
        "int fate(int,int)", "int takes(int,int)", "int event(int,int)", "int count(int)",
    };

    public static void main(String[] args) {
        Checks checks = new Checks();
        checks.title("face");
        checks.due("methods", String.join("\n", methods()), String.join("\n", new TreeSet<>(Set.of(FACE))));
        checks.due("constants", String.join(" ", constants()), "BAD_VALUE FULL NONE NOT_POSSIBLE UNKNOWN");
        Constructor<?>[] made = DustRobot.class.getDeclaredConstructors();
        checks.due("constructors", made.length, 1);
        checks.due("its parameters", made[0].getParameterCount(), 0);
        checks.due("it is public", made[0].getModifiers() & Modifier.PUBLIC, Modifier.PUBLIC);
        int modifiers = DustRobot.class.getModifiers();
        checks.due("public and final", modifiers & (Modifier.PUBLIC | Modifier.FINAL), Modifier.PUBLIC | Modifier.FINAL);
        checks.due("UNKNOWN", DustRobot.UNKNOWN, -1);
        checks.due("BAD_VALUE", DustRobot.BAD_VALUE, -2);
        checks.due("FULL", DustRobot.FULL, -3);
        checks.due("NOT_POSSIBLE", DustRobot.NOT_POSSIBLE, -4);
        checks.due("NONE", DustRobot.NONE, -5);
        checkInside(checks);
        checks.end();
    }

    private static Set<String> methods() {
        Set<String> found = new TreeSet<>();
        for (Method method : DustRobot.class.getDeclaredMethods()) {
            if (!isSeenInside(method)) {
                StringBuilder row = new StringBuilder();
                row.append(method.getReturnType()).append(' ').append(method.getName()).append('(');
                for (int i = 0; i < method.getParameterCount(); i++) {
                    row.append(i == 0 ? "" : ",").append(method.getParameterTypes()[i]);
                }
                found.add(row.append(')').toString());
            }
        }
        return found;
    }

    private static Set<String> constants() {
        Set<String> found = new TreeSet<>();
        for (Field field : DustRobot.class.getDeclaredFields()) {
            if (!isSeenInside(field)) {
                found.add(field.getName());
            }
        }
        return found;
    }

    private static boolean isSeenInside(Member member) {
        return Modifier.isPrivate(member.getModifiers()) || member.isSynthetic();
    }

    private static void checkInside(Checks checks) {
        Class<?>[] inside = DustRobot.class.getDeclaredClasses();
        checks.due("some twelve classes at most", inside.length <= 12 ? 1 : 0, 1);
        for (Class<?> one : inside) {
            checks.due(one + " is static", one.getModifiers() & Modifier.STATIC, Modifier.STATIC);
            checks.due(one + " is not public", one.getModifiers() & (Modifier.PUBLIC | Modifier.PROTECTED), 0);
            int fields = 0;
            for (Field field : one.getDeclaredFields()) {
                fields += Modifier.isStatic(field.getModifiers()) ? 0 : 1;
            }
            checks.due(one + " has some twenty fields at most", fields <= 20 ? 1 : 0, 1);
        }
    }
}
