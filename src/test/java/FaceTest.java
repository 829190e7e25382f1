import java.lang.reflect.Constructor;
import java.lang.reflect.Field;
import java.lang.reflect.Method;
import java.lang.reflect.Modifier;
import java.util.ArrayList;
import java.util.Collections;
import java.util.List;

// The public face: constants, constructor, methods, and nothing else that is not private; promise 1.
public final class FaceTest {
    private static int wrong = 0;

    private static void due(String what, Object got, Object want) {
        if (!want.equals(got)) {
            wrong++;
            System.out.println(what + " answered " + got + ", due is " + want);
        }
    }

    public static void main(String[] args) {
        due("NONE", TableShares.NONE, -1000000);
        due("BAD", TableShares.BAD, -1000001);
        due("STATE", TableShares.STATE, -1000002);
        due("FULL", TableShares.FULL, -1000003);
        due("the class's modifiers", Modifier.toString(TableShares.class.getModifiers()), "public final");
        due("constants", constants(), "[BAD, FULL, NONE, STATE]");
        due("constructors", constructors(), "[0]");
        due("methods", methods(), "[adds 2, as 2, ask 2, away 2, best 1, bring 1, colds 3, copy 5, count 1, "
                + "drop 1, due 2, enough 2, fault 0, feed 1, image 1, kind 1, leaves 2, meals 1, missed 1, "
                + "restore 1, row 3, set 3, status 0, table 0, tableHas 1, tie 3, tieHas 2, together 1, trace 1, "
                + "undo 0, untie 0, which 4, whoAway 2, worth 1]");
        newObject();
        System.out.println(wrong == 0 ? "all answers are as due" : wrong + " answers are not as due");
        if (wrong != 0) {
            System.exit(1);
        }
    }

    private static void newObject() {
        TableShares x = new TableShares();
        for (int what = 0; what <= 6; what++) {
            due("count(" + what + ") of a new object", x.count(what), 0);
        }
        due("tableHas(0) of a new object", x.tableHas(0), TableShares.STATE);
        due("fault() of a new object", x.fault(), 0);
        due("status() of a new object", x.status(), 0);
        due("trace(0) of a new object", x.trace(0), TableShares.NONE);
        due("undo() of a new object", x.undo(), TableShares.STATE);
        due("restore(1) of a new object", x.restore(1), TableShares.STATE);
        due("kind(0) of a new object", x.kind(0), TableShares.BAD);
        TableShares other = new TableShares();
        x.row(0, 0, 1);
        x.feed('t');
        due("count(0) of another object", other.count(0), 0);
        due("count(6) of another object", other.count(6), 0);
    }

    private static String constants() {
        List<String> names = new ArrayList<>();
        for (Field field : TableShares.class.getDeclaredFields()) {
            if (!Modifier.isPrivate(field.getModifiers())) {
                names.add(field.getName());
                due(field.getName() + "'s modifiers", Modifier.toString(field.getModifiers()), "public static final");
            }
        }
        Collections.sort(names);
        return names.toString();
    }

    private static String constructors() {
        List<String> all = new ArrayList<>();
        for (Constructor<?> constructor : TableShares.class.getDeclaredConstructors()) {
            all.add("" + constructor.getParameterCount());
            due("the constructor's modifiers", Modifier.toString(constructor.getModifiers()), "public");
        }
        return all.toString();
    }

    private static String methods() {
        List<String> names = new ArrayList<>();
        for (Method method : TableShares.class.getDeclaredMethods()) {
            if (!Modifier.isPrivate(method.getModifiers())) {
                names.add(method.getName() + " " + method.getParameterCount());
                due(method.getName() + "'s modifiers", Modifier.toString(method.getModifiers()), "public");
                due(method.getName() + "'s answer", method.getReturnType().getName(), "int");
            }
        }
        Collections.sort(names);
        return names.toString();
    }
}
