import java.lang.reflect.Constructor;
import java.lang.reflect.Field;
import java.lang.reflect.Method;
import java.lang.reflect.Modifier;
import java.util.Arrays;
import java.util.TreeSet;

/** The public face, and promise 1: a new object. */
public final class FaceTest {
    private static final String[] FACE = {
        "int feed(int, int, int, int, int)", "int village(int)", "int days(int)", "int fault()", "int count(int)",
        "int owner(int, int)", "int door(int, int)", "int worth(int, int)", "int best(int, int)",
        "int span(int, int, int)", "int rests(int)", "int alike(int, int)", "int hedge(int, int, int, boolean)",
        "int safer(int, int, int)", "int receipt(int, int, int)", "int lose()", "int chalked(int)",
        "int voids(int, int)", "int mean(int, int, int, int)", "int pay(int, int, int)", "int trade(int, int)",
        "int tax(int)", "int sum(int, int, int)", "void image()", "boolean restore()"
    };

    public static void main(String[] args) {
        face();
        newObject();
        Check.end();
    }

    private static void face() {
        TreeSet<String> found = new TreeSet<>();
        TreeSet<String> names = new TreeSet<>();
        for (Method m : GoatDoors.class.getDeclaredMethods()) {
            if (!Modifier.isPrivate(m.getModifiers())) {
                found.add(toText(m));
                names.add(m.getName());
            }
        }
        Check.same("the methods", new TreeSet<>(Arrays.asList(FACE)).toString(), found.toString());
        for (Class<?> c : GoatDoors.class.getDeclaredClasses()) {
            Check.same(c + " is static", "true", Boolean.toString(Modifier.isStatic(c.getModifiers())));
            for (Method m : c.getDeclaredMethods()) {
                Check.same(m + " bears a public name", "false", Boolean.toString(names.contains(m.getName())));
            }
        }
        for (Method m : GoatDoors.class.getDeclaredMethods()) {
            boolean hidden = Modifier.isPrivate(m.getModifiers());
            Check.same(m + " bears a public name", "false", Boolean.toString(hidden && names.contains(m.getName())));
        }
        for (Field f : GoatDoors.class.getDeclaredFields()) {
            boolean open = !Modifier.isPrivate(f.getModifiers());
            Check.same(f + " is open", Boolean.toString(f.getName().equals("NONE")), Boolean.toString(open));
        }
        Constructor<?>[] all = GoatDoors.class.getDeclaredConstructors();
        Check.due("constructors", 1, () -> all.length);
        Check.due("their parameters", 0, () -> all[0].getParameterCount());
        Check.due("NONE", -1, () -> GoatDoors.NONE);
    }

    private static String toText(Method m) {
        String args = Arrays.toString(m.getParameterTypes());
        return m.getReturnType() + " " + m.getName() + "(" + args.substring(1, args.length() - 1) + ")";
    }

    private static void newObject() {
        GoatDoors x = new GoatDoors();
        for (int i = 0; i < 10; i++) {
            int what = i;
            Check.due("new: count " + what, 0, () -> x.count(what));
        }
        Check.due("new: fault", -1, x::fault);
        Check.noSuch("new: owner", () -> x.owner(0, 0));
        Check.noSuch("new: door", () -> x.door(0, 0));
        Check.noSuch("new: best", () -> x.best(0, 0));
        Check.noSuch("new: span", () -> x.span(0, 3, 2));
        Check.noSuch("new: worth", () -> x.worth(0, 99));
        Check.due("new: rests", 1, () -> x.rests(-1));
        Check.noSuch("new: rests of one", () -> x.rests(0));
        Check.due("new: chalked", 39, () -> x.chalked(0));
        Check.due("new: least chalked", 2, () -> x.chalked(1));
        Check.due("new: trade", 0, () -> x.trade(40, 0));
        Check.due("new: lose", -1, x::lose);
        Check.due("new: restore", 0, () -> x.restore() ? 1 : 0);
    }
}
