import java.lang.reflect.Constructor;
import java.lang.reflect.Field;
import java.lang.reflect.Method;
import java.lang.reflect.Modifier;
import java.util.Set;
import java.util.TreeSet;

/** The public face, the values of its constants, and promise 1. */
public final class FaceTest {
    private static final String[] METHODS = {"set int int", "square int int int", "row int int", "chalk int int",
        "stroke int int int", "rub int int", "draw int int", "mend", "awning int int", "rain int int",
        "crowd int int int int", "pass int", "at int int int", "of int int int", "squares int int", "ofHue int int",
        "rains int", "count int", "from int int int", "bestMark int", "needs int", "lastsFor", "rightIn int",
        "bestAwning int int", "put long", "wipe", "fault", "carryOut", "undo", "save int", "restore int"};
    private static final String[] CONSTANTS = {"NO_SUCH", "BAD_VALUE", "BAD_TEXT", "TOO_MANY", "NOT_POSSIBLE", "NONE",
        "EYE", "AWAY", "MARK", "COAT", "WASH", "FEET"};
    private static final int[] VALUES = {-1, -2, -3, -4, -5, -6, 0, 1, 2, 3, 4, 5};

    private final Check check = new Check("FaceTest");

    public static void main(String[] args) throws ReflectiveOperationException {
        FaceTest test = new FaceTest();
        test.constants();
        test.members();
        test.classesInside();
        test.newObject();
        test.newPavement();
        test.check.end();
    }

    private void constants() throws ReflectiveOperationException {
        for (int i = 0; i < CONSTANTS.length; i++) {
            check.due(CONSTANTS[i], ChalkSquares.class.getField(CONSTANTS[i]).getInt(null), VALUES[i]);
        }
    }

    private void members() {
        check.holds("a public class", Modifier.isPublic(ChalkSquares.class.getModifiers()));
        check.holds("a final class", Modifier.isFinal(ChalkSquares.class.getModifiers()));
        Constructor<?>[] constructors = ChalkSquares.class.getDeclaredConstructors();
        check.due("constructors", constructors.length, 1);
        check.due("parameters of the constructor", constructors[0].getParameterCount(), 0);
        check.holds("a public constructor", Modifier.isPublic(constructors[0].getModifiers()));

        Set<String> hidden = new TreeSet<>();
        Set<String> open = new TreeSet<>();
        for (Method m : ChalkSquares.class.getDeclaredMethods()) {
            if (Modifier.isPrivate(m.getModifiers())) {
                hidden.add(m.getName());
                continue;
            }
            StringBuilder face = new StringBuilder(m.getName());
            for (Class<?> type : m.getParameterTypes()) {
                face.append(' ').append(type.getName());
            }
            open.add(face.toString());
            check.holds(m + " is public and answers an int",
                Modifier.isPublic(m.getModifiers()) && !Modifier.isStatic(m.getModifiers())
                    && m.getReturnType() == int.class);
        }
        check.holds("the methods of the face: " + open, open.equals(new TreeSet<>(Set.of(METHODS))));
        for (String method : METHODS) {
            String name = method.split(" ")[0];
            check.holds("no private method is named " + name, !hidden.contains(name));
        }
        fields();
    }

    private void fields() {
        Set<String> names = Set.of(CONSTANTS);
        for (Field f : ChalkSquares.class.getDeclaredFields()) {
            boolean open = !Modifier.isPrivate(f.getModifiers());
            check.holds("the field " + f.getName() + " is open or private as the face tells",
                open == names.contains(f.getName()));
            check.holds("the field " + f.getName() + " is final", Modifier.isFinal(f.getModifiers()));
        }
    }

    private void classesInside() {
        Class<?>[] inside = ChalkSquares.class.getDeclaredClasses();
        check.holds("at most twelve classes", inside.length + 1 <= 12);
        for (Class<?> c : inside) {
            int modifiers = c.getModifiers();
            check.holds(c + " is static and not open",
                Modifier.isStatic(modifiers) && !Modifier.isPublic(modifiers) && !Modifier.isProtected(modifiers));
            check.holds(c + " has some twenty fields at most", c.getDeclaredFields().length <= 20);
            for (Field f : c.getDeclaredFields()) {
                check.holds(f + " is no static state",
                    !Modifier.isStatic(f.getModifiers()) || Modifier.isFinal(f.getModifiers()));
            }
        }
    }

    // Promise 1
    private void newObject() {
        ChalkSquares x = new ChalkSquares();
        int[] counts = {0, 0, 0, 0, 56, 8, 0, 1, 0, 0, 14, 8, 8, 3, 1, 10, 0, 0};
        for (int what = 0; what < counts.length; what++) {
            check.due("count(" + what + ") of a new object", x.count(what), counts[what]);
        }
        for (int hue = 1; hue <= 7; hue++) {
            check.due("chalk of the hue " + hue, x.ofHue(hue, 0), 0);
            check.due("flags with the hue " + hue, x.ofHue(hue, 1), 0);
            check.due("squares with the hue " + hue, x.ofHue(hue, 2), 0);
        }
        check.due("bare flags", x.ofHue(0, 1), 256);
        check.due("squares without a hue", x.ofHue(0, 2), 64);
        for (int in = 0; in <= 99; in++) {
            check.due("rains(" + in + ")", x.rains(in), 0);
        }
        check.due("undo()", x.undo(), ChalkSquares.NOT_POSSIBLE);
        check.due("restore(0)", x.restore(0), ChalkSquares.NOT_POSSIBLE);
        check.due("restore(1)", x.restore(1), ChalkSquares.NOT_POSSIBLE);
        check.due("fault()", x.fault(), 0);
        check.due("wipe()", x.wipe(), 0);
    }

    private void newPavement() {
        int[] kinds = {0, 1, 3, 4};
        for (int what : kinds) {
            ChalkSquares x = new ChalkSquares();
            for (int flag = 0; flag < 256; flag++) {
                check.due("at(.., " + what + ") of the flag " + flag, x.at(flag / 16, flag % 16, what), 0);
            }
        }
    }
}
