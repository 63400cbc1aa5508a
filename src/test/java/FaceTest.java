import java.lang.reflect.Constructor;
import java.lang.reflect.Field;
import java.lang.reflect.Method;
import java.lang.reflect.Modifier;
import java.util.Set;
import java.util.TreeSet;

/** The public face, and promise 1: a new object. */
final class FaceTest {
    private static final String[] METHODS = {
        "feed 6 int", "text 0 int", "shape 2 int", "orders 1 long", "step 3 int", "taken 3 int", "begin 2 int",
        "plan 4 int", "tick 0 int", "told 2 int", "why 2 int", "set 2 int", "line 2 int", "replay 2 int",
        "breaks 1 int", "run 2 int", "ends 2 int", "drawn 2 int", "chance 4 int", "tells 4 int", "film 3 int",
        "count 1 int", "sheet 3 int", "cell 3 int", "copy 5 int"};

    public static void main(String[] args) {
        theFace();
        aNewObject();
        Due.end();
    }

    private static void theFace() {
        Due.is("NONE", SagaDesk.NONE, -1);
        Due.is("BAD", SagaDesk.BAD, -2);
        Due.is("STATE", SagaDesk.STATE, -3);
        Due.is("FULL", SagaDesk.FULL, -4);
        Due.holds("the class is public and final",
            Modifier.isPublic(SagaDesk.class.getModifiers()) && Modifier.isFinal(SagaDesk.class.getModifiers()));
        Set<String> due = new TreeSet<>(Set.of(METHODS));
        Set<String> names = new TreeSet<>();
        for (String method : METHODS) {
            names.add(method.substring(0, method.indexOf(' ')));
        }
        Set<String> got = new TreeSet<>();
        for (Method method : SagaDesk.class.getDeclaredMethods()) {
            if (Modifier.isPrivate(method.getModifiers())) {
                Due.holds("no private method is named " + method.getName(), !names.contains(method.getName()));
            } else {
                got.add(method.getName() + " " + method.getParameterCount() + " " + method.getReturnType());
            }
        }
        Due.holds("the methods are " + due + ", not " + got, due.equals(got));
        for (Constructor<?> constructor : SagaDesk.class.getDeclaredConstructors()) {
            Due.is("parameters of the constructor", constructor.getParameterCount(), 0);
        }
        int open = 0;
        for (Field field : SagaDesk.class.getDeclaredFields()) {
            open += Modifier.isPrivate(field.getModifiers()) ? 0 : 1;
            Due.holds(field.getName() + " is final, if static",
                !Modifier.isStatic(field.getModifiers()) || Modifier.isFinal(field.getModifiers()));
        }
        Due.is("open fields", open, 4);
        for (Class<?> inside : SagaDesk.class.getDeclaredClasses()) {
            Due.holds(inside + " is static", Modifier.isStatic(inside.getModifiers()));
            for (Method method : inside.getDeclaredMethods()) {
                Due.holds("none inside is named " + method.getName(), !names.contains(method.getName()));
            }
            Due.holds(inside + " is not open",
                !Modifier.isPublic(inside.getModifiers()) && !Modifier.isProtected(inside.getModifiers()));
        }
    }

    private static void aNewObject() {
        SagaDesk x = new SagaDesk();
        for (int s = 0; s < 3; s++) {
            Due.is("told(s, 0)", x.told(s, 0), 0);
            Due.is("told(s, 1)", x.told(s, 1), SagaDesk.NONE);
            for (int what = 2; what <= 6; what++) {
                Due.is("told(s, " + what + ")", x.told(s, what), 0);
            }
            Due.is("told(s, 7)", x.told(s, 7), SagaDesk.NONE);
        }
        for (int what = 0; what <= 5; what++) {
            Due.is("count(" + what + ")", x.count(what), 0);
        }
        for (int what = 10; what <= 15; what++) {
            Due.is("count(" + what + ")", x.count(what), 100);
        }
        for (int s = 0; s < 4; s++) {
            Due.is("cell of a missing sheet", x.cell(s, 0, 0), -11);
        }
        Due.is("tick()", x.tick(), 0);
    }
}
