import java.io.IOException;
import java.lang.reflect.Constructor;
import java.lang.reflect.Field;
import java.lang.reflect.Method;
import java.lang.reflect.Modifier;
import java.nio.file.Files;
import java.nio.file.Path;
import java.util.Set;
import java.util.TreeSet;
import java.util.regex.Matcher;
import java.util.regex.Pattern;

/** The public face, and those rules of LANGUAGE.md that the text of the program shows. */
final class FaceTests {
    private static final Path SOURCE = Path.of("src/main/java/StrokeBoard.java");

    private static final String[] METHODS = {
        "reset 1", "join 0", "sites 0", "siteInfo 2", "penDown 5", "penMove 3", "penUp 1", "undo 1",
        "redo 1", "lift 3", "deliver 2", "lose 2", "deliverAll 0", "waiting 2", "gap 3", "repair 2",
        "transfer 2", "operation 3", "knows 3", "stroke 3", "strokeAt 3", "digest 1", "areSame 2",
        "differing 0", "bestHelper 1", "endangered 1"};

    private FaceTests() {
    }

    static void all(Checks checks) {
        checks.test("face: constants", FaceTests::constants);
        checks.test("face: constructor and methods", FaceTests::methods);
        checks.test("face: no other member is to be seen", FaceTests::hidden);
        checks.test("rule 1: no private method with a public one's name", FaceTests::privateNames);
        checks.test("rules 2 and 6: words that the language leaves out", FaceTests::words);
        checks.test("rule 11: parameters, fields and lengths", FaceTests::sizes);
        checks.test("one room: no call makes an object", FaceTests::makesNothing);
    }

    private static void constants(Checks due) {
        due.is("INVALID_ARGUMENT", StrokeBoard.INVALID_ARGUMENT, -1000000001);
        due.is("NOT_POSSIBLE", StrokeBoard.NOT_POSSIBLE, -1000000002);
        due.is("LIMIT_REACHED", StrokeBoard.LIMIT_REACHED, -1000000003);
        due.is("NOT_FOUND", StrokeBoard.NOT_FOUND, -1000000004);
        due.is("STROKE", StrokeBoard.STROKE, 0);
        due.is("UNDO", StrokeBoard.UNDO, 1);
        due.is("REDO", StrokeBoard.REDO, 2);
        due.is("LIFT", StrokeBoard.LIFT, 3);
        due.is("public fields", StrokeBoard.class.getFields().length, 8);
        for (Field field : StrokeBoard.class.getFields()) {
            int modifiers = field.getModifiers();
            due.holds(field + " is a constant int", Modifier.isStatic(modifiers)
                    && Modifier.isFinal(modifiers) && field.getType() == int.class);
        }
    }

    private static void methods(Checks due) {
        Set<String> want = new TreeSet<>(Set.of(METHODS));
        Set<String> got = new TreeSet<>();
        for (Method method : StrokeBoard.class.getDeclaredMethods()) {
            if (Modifier.isPublic(method.getModifiers())) {
                got.add(method.getName() + " " + method.getParameterCount());
                due.holds(method + " takes and answers int", takesInts(method));
            }
        }
        due.holds("methods are " + got, got.equals(want));
        due.is("constructors", StrokeBoard.class.getDeclaredConstructors().length, 1);
        due.is("public constructors", StrokeBoard.class.getConstructors().length, 1);
        due.holds("public and final", Modifier.isPublic(StrokeBoard.class.getModifiers())
                && Modifier.isFinal(StrokeBoard.class.getModifiers()));
    }

    private static boolean takesInts(Method method) {
        for (Class<?> type : method.getParameterTypes()) {
            if (type != int.class) {
                return false;
            }
        }
        return method.getReturnType() == int.class && !Modifier.isStatic(method.getModifiers());
    }

    private static boolean isSeen(int modifiers) {
        return !Modifier.isPrivate(modifiers) && !Modifier.isPublic(modifiers);
    }

    private static void hidden(Checks due) {
        for (Method method : StrokeBoard.class.getDeclaredMethods()) {
            due.holds(method + " is public or private", !isSeen(method.getModifiers()));
        }
        for (Field field : StrokeBoard.class.getDeclaredFields()) {
            due.holds(field + " is public or private", !isSeen(field.getModifiers()));
            due.holds(field + " static, so final", !Modifier.isStatic(field.getModifiers())
                    || Modifier.isFinal(field.getModifiers()));
        }
        for (Class<?> inside : StrokeBoard.class.getDeclaredClasses()) {
            due.holds(inside + " is static, and not public", Modifier.isStatic(inside.getModifiers())
                    && !Modifier.isPublic(inside.getModifiers())
                    && !Modifier.isProtected(inside.getModifiers()));
        }
        due.holds("no package", StrokeBoard.class.getPackageName().isEmpty());
    }

    private static void privateNames(Checks due) {
        Set<String> names = new TreeSet<>();
        for (String method : METHODS) {
            names.add(method.substring(0, method.indexOf(' ')));
        }
        for (Method method : StrokeBoard.class.getDeclaredMethods()) {
            due.holds(method.toString(), Modifier.isPublic(method.getModifiers())
                    || !names.contains(method.getName()));
        }
        for (Class<?> inside : StrokeBoard.class.getDeclaredClasses()) {
            for (Method method : inside.getDeclaredMethods()) {
                due.holds(method.toString(), !names.contains(method.getName()));
            }
        }
    }

    /** The program's text without its comments. */
    private static String code() {
        try {
            String text = Files.readString(SOURCE);
            return text.replaceAll("(?s)/\\*.*?\\*/", "").replaceAll("//[^\n]*", "");
        } catch (IOException unreadable) {
            throw new IllegalStateException("run the tests from the project's folder", unreadable);
        }
    }

    private static void words(Checks due) {
        String[] words = {"throw", "throws", "try", "catch", "finally", "synchronized", "assert",
            "import", "package", "instanceof", "System", "Thread", "Random", "lambda", "equals",
            "hashCode", "toString", "float", "double", "String"};
        String code = code();
        for (String word : words) {
            Matcher matcher = Pattern.compile("\\b" + word + "\\b").matcher(code);
            due.holds("no '" + word + "'", !matcher.find());
        }
        due.holds("no lambda", !code.contains("->"));
        due.holds("no method reference", !code.contains("::"));
        due.holds("no annotation", !code.contains("@"));
    }

    private static void sizes(Checks due) {
        due.holds("classes", StrokeBoard.class.getDeclaredClasses().length < 12);
        fieldsOf(due, StrokeBoard.class);
        for (Class<?> inside : StrokeBoard.class.getDeclaredClasses()) {
            fieldsOf(due, inside);
            for (Constructor<?> constructor : inside.getDeclaredConstructors()) {
                due.holds(constructor.toString(), constructor.getParameterCount() <= 7);
            }
            for (Method method : inside.getDeclaredMethods()) {
                due.holds(method.toString(), method.getParameterCount() <= 7);
            }
        }
        for (Method method : StrokeBoard.class.getDeclaredMethods()) {
            due.holds(method.toString(), method.getParameterCount() <= 7);
        }
        for (String part : code().split("\n\\s*\n")) {
            due.holds("no more than 60 lines:" + part, part.split("\n").length <= 60);
        }
    }

    private static void fieldsOf(Checks due, Class<?> type) {
        int fields = 0;
        for (Field field : type.getDeclaredFields()) {
            fields += Modifier.isStatic(field.getModifiers()) ? 0 : 1;
        }
        due.holds("fields of " + type + ": " + fields, fields <= 20);
    }

    /** 'new' stands at a field, or in the constructors of Row and Ink; in no method that is called. */
    private static void makesNothing(Checks due) {
        int inConstructors = 0;
        for (String line : code().split("\n")) {
            if (line.matches(".*\\bnew\\b.*") && !line.matches("\\s*private final \\w+ \\w+ = new .*;")) {
                inConstructors++;
                due.holds(line, line.matches("\\s+\\w+ = new (Row|int)[(\\[].*;"));
            }
        }
        due.is("lines with 'new' that are no field's", inConstructors, 6);
    }
}
