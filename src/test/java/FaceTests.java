import java.lang.reflect.Field;
import java.lang.reflect.Method;
import java.lang.reflect.Modifier;
import java.util.Set;
import java.util.TreeSet;

/** The public face, and rule 1 of LANGUAGE.md, which is about it. */
final class FaceTests {
    private static final String[] METHODS = {
        "reset 1", "join 0", "sites 0", "siteInfo 2", "penDown 5", "penMove 3", "penUp 1", "undo 1",
        "redo 1", "lift 3", "deliver 2", "lose 2", "deliverAll 0", "waiting 2", "gap 3", "repair 2",
        "transfer 2", "operation 3", "knows 3", "stroke 3", "strokeAt 3", "digest 1", "areSame 2",
        "differing 0", "bestHelper 1", "endangered 1"};

    private FaceTests() {
    }

    static void all(Checks checks) {
        checks.test("face: constants", FaceTests::constants);
        checks.test("face: constructor and methods", FaceTests::methods);
        checks.test("face: no other member is to be seen", FaceTests::hidden);
        checks.test("rule 1: no private method with a public one's name", FaceTests::privateNames);
    }

    private static void constants(Checks due) {
        due.is("INVALID_ARGUMENT", StrokeBoard.INVALID_ARGUMENT, -1000000001);
        due.is("NOT_POSSIBLE", StrokeBoard.NOT_POSSIBLE, -1000000002);
        due.is("LIMIT_REACHED", StrokeBoard.LIMIT_REACHED, -1000000003);
        due.is("NOT_FOUND", StrokeBoard.NOT_FOUND, -1000000004);
        due.is("STROKE", StrokeBoard.STROKE, 0);
        due.is("UNDO", StrokeBoard.UNDO, 1);
        due.is("REDO", StrokeBoard.REDO, 2);
        due.is("LIFT", StrokeBoard.LIFT, 3);
        due.is("public fields", StrokeBoard.class.getFields().length, 8);
        for (Field field : StrokeBoard.class.getFields()) {
            int modifiers = field.getModifiers();
            due.holds(field + " is a constant int", Modifier.isStatic(modifiers)
                    && Modifier.isFinal(modifiers) && field.getType() == int.class);
        }
    }

    private static void methods(Checks due) {
        Set<String> want = new TreeSet<>(Set.of(METHODS));
        Set<String> got = new TreeSet<>();
        for (Method method : StrokeBoard.class.getDeclaredMethods()) {
            if (Modifier.isPublic(method.getModifiers())) {
                got.add(method.getName() + " " + method.getParameterCount());
                due.holds(method + " takes and answers int", takesInts(method));
            }
        }
        due.holds("methods are " + got, got.equals(want));
        due.is("constructors", StrokeBoard.class.getDeclaredConstructors().length, 1);
        due.is("public constructors", StrokeBoard.class.getConstructors().length, 1);
        due.holds("public and final", Modifier.isPublic(StrokeBoard.class.getModifiers())
                && Modifier.isFinal(StrokeBoard.class.getModifiers()));
    }

    private static boolean takesInts(Method method) {
        for (Class<?> type : method.getParameterTypes()) {
            if (type != int.class) {
                return false;
            }
        }
        return method.getReturnType() == int.class && !Modifier.isStatic(method.getModifiers());
    }

    private static boolean isSeen(int modifiers) {
        return !Modifier.isPrivate(modifiers) && !Modifier.isPublic(modifiers);
    }

    private static void hidden(Checks due) {
        for (Method method : StrokeBoard.class.getDeclaredMethods()) {
            due.holds(method + " is public or private", !isSeen(method.getModifiers()));
        }
        for (Field field : StrokeBoard.class.getDeclaredFields()) {
            due.holds(field + " is public or private", !isSeen(field.getModifiers()));
            due.holds(field + " static, so final", !Modifier.isStatic(field.getModifiers())
                    || Modifier.isFinal(field.getModifiers()));
        }
        for (Class<?> inside : StrokeBoard.class.getDeclaredClasses()) {
            due.holds(inside + " is static, and not public", Modifier.isStatic(inside.getModifiers())
                    && !Modifier.isPublic(inside.getModifiers())
                    && !Modifier.isProtected(inside.getModifiers()));
        }
        due.holds("no package", StrokeBoard.class.getPackageName().isEmpty());
    }

    private static void privateNames(Checks due) {
        Set<String> names = new TreeSet<>();
        for (String method : METHODS) {
            names.add(method.substring(0, method.indexOf(' ')));
        }
        noneBears(due, names, StrokeBoard.class);
        for (Class<?> inside : StrokeBoard.class.getDeclaredClasses()) {
            noneBears(due, names, inside);
        }
    }

    private static void noneBears(Checks due, Set<String> names, Class<?> type) {
        for (Method method : type.getDeclaredMethods()) {
            due.holds(method.toString(), !Modifier.isPrivate(method.getModifiers())
                    || !names.contains(method.getName()));
        }
    }
}
