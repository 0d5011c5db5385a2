import java.lang.reflect.Constructor;
import java.lang.reflect.Field;
import java.lang.reflect.Method;
import java.lang.reflect.Modifier;
import java.util.ArrayList;
import java.util.Arrays;
import java.util.List;
import java.util.TreeSet;

/** The public face is just that of the document: no member less, none more. */
public final class FaceTest {
    private static final String FACE = "coin 3, of 2, change 3, turn 1, purse 2, sum 1, pay 3, there 2, can 2, with 2,"
        + " sums 1, cannot 1, cost 3, given 3, back 3, buy 3, fewest 3, dearth 2, gain 2, lot 2, deal 2, deals 2,"
        + " partner 1, round 2, flip 2, highest 1, wrong 0, ways 2, kindFor 1, days 1, ahead 2, market 1, toss 2,"
        + " seed 1, feed 2, wipe 0, text 0, hold 2, as 2, sheet 3, write 3, copy 5, load 1, strike 2, judge 3,"
        + " image 0, undo 0, tear 0, count 1, status 1";

    private static final List<String> faults = new ArrayList<>();

    public static void main(String[] args) {
        Class<?> type = TurningCoins.class;
        check(Modifier.isPublic(type.getModifiers()) && Modifier.isFinal(type.getModifiers()), "public final class");
        checkMethods(type);
        Constructor<?>[] made = type.getDeclaredConstructors();
        check(made.length == 1 && made[0].getParameterCount() == 0 && Modifier.isPublic(made[0].getModifiers()),
            "one public constructor without parameters");
        for (Field field : type.getDeclaredFields()) {
            check(Modifier.isPrivate(field.getModifiers()), "private field " + field.getName());
        }
        checkInside(type);
        for (String fault : faults) {
            System.out.println("not so: " + fault);
        }
        System.out.println(faults.isEmpty() ? "the face is as due" : "the face is not as due");
        System.exit(faults.isEmpty() ? 0 : 1);
    }

    private static void checkMethods(Class<?> type) {
        TreeSet<String> shown = new TreeSet<>();
        TreeSet<String> hidden = new TreeSet<>();
        for (Method method : type.getDeclaredMethods()) {
            if (Modifier.isPrivate(method.getModifiers())) {
                hidden.add(method.getName());
                continue;
            }
            shown.add(method.getName() + " " + method.getParameterCount());
            check(Modifier.isPublic(method.getModifiers()) && !Modifier.isStatic(method.getModifiers()),
                "public method " + method.getName());
            check(method.getReturnType() == int.class, "int " + method.getName());
            for (Class<?> parameter : method.getParameterTypes()) {
                check(parameter == int.class, "int parameters of " + method.getName());
            }
        }
        TreeSet<String> due = new TreeSet<>(Arrays.asList(FACE.split(", ")));
        check(shown.equals(due), "the methods of the face: " + shown);
        for (String name : due) {
            check(!hidden.contains(name.split(" ")[0]), "no private method is called " + name.split(" ")[0]);
        }
    }

    private static void checkInside(Class<?> type) {
        for (Class<?> inside : type.getDeclaredClasses()) {
            check(Modifier.isStatic(inside.getModifiers()), "static class " + inside.getName());
            check(!Modifier.isPublic(inside.getModifiers()) && !Modifier.isProtected(inside.getModifiers()),
                "hidden class " + inside.getName());
        }
    }

    private static void check(boolean holds, String what) {
        if (!holds) {
            faults.add(what);
        }
    }
}
