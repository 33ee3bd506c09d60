import java.lang.reflect.Constructor;
import java.lang.reflect.Field;
import java.lang.reflect.Method;
import java.lang.reflect.Modifier;
import java.util.TreeSet;

/** The public face, member by member, and promise 1: a new object. */
public final class FaceTest {
    private static final String[] DUE = {
        "int any() throws IllegalStateException",
        "int answer(int,boolean,int,int) throws IndexOutOfBoundsException,IllegalArgumentException",
        "int answers(int,boolean) throws IndexOutOfBoundsException",
        "int apart(int,int,int) throws IndexOutOfBoundsException,IllegalStateException",
        "int arc(int,int,int) throws IndexOutOfBoundsException,IllegalArgumentException",
        "int best(int,boolean,int) throws IndexOutOfBoundsException",
        "int changes(int) throws IndexOutOfBoundsException",
        "int clear() throws ",
        "int compose(int,int) throws IndexOutOfBoundsException,IllegalStateException",
        "int cost(int,boolean) throws IndexOutOfBoundsException",
        "int guess() throws ",
        "boolean isEnd(int,int) throws IndexOutOfBoundsException",
        "boolean isPlain(int) throws IndexOutOfBoundsException",
        "int join(int,int) throws IndexOutOfBoundsException,IllegalStateException",
        "int learn(int) throws IllegalArgumentException,IllegalStateException",
        "int least(int) throws IndexOutOfBoundsException,IllegalStateException",
        "int meet(int,int,boolean) throws IndexOutOfBoundsException,IllegalStateException",
        "int mended(int,int) throws IndexOutOfBoundsException",
        "int pair(int,int,int) throws IllegalArgumentException,IllegalStateException",
        "int repeat(int) throws IndexOutOfBoundsException,IllegalStateException",
        "int rule(int,int,int,int,boolean) throws IllegalArgumentException,IllegalStateException",
        "int ruled(int,int,int,int,int) throws IndexOutOfBoundsException,IllegalArgumentException",
        "int side(int,boolean) throws IndexOutOfBoundsException,IllegalStateException",
        "int size(int) throws IndexOutOfBoundsException",
        "int turn(int) throws IndexOutOfBoundsException,IllegalStateException",
        "int type(int) throws IllegalArgumentException,IllegalStateException",
        "int unite(int,int) throws IndexOutOfBoundsException,IllegalStateException",
        "int word() throws IllegalStateException",
    };

    private static final Check CHECK = new Check("FaceTest");

    public static void main(String[] args) {
        checkFace();
        checkNewObject();
        checkObjectsAreApart();
        CHECK.end();
    }

    private static void checkFace() {
        TreeSet<String> due = new TreeSet<>();
        for (String method : DUE) {
            due.add(method);
        }
        TreeSet<String> got = new TreeSet<>();
        for (Method method : AffixWorks.class.getDeclaredMethods()) {
            if (!Modifier.isPrivate(method.getModifiers())) {
                got.add(method.getReturnType().getSimpleName() + " " + method.getName()
                        + "(" + names(method.getParameterTypes()) + ") throws "
                        + names(method.getExceptionTypes()));
            }
        }
        CHECK.same("methods", got.toString(), due.toString());
        TreeSet<String> fields = new TreeSet<>();
        for (Field field : AffixWorks.class.getDeclaredFields()) {
            if (!Modifier.isPrivate(field.getModifiers())) {
                fields.add(field.toString());
            }
        }
        CHECK.same("constants", fields.toString(),
                "[public static final int AffixWorks.EMPTY, public static final int AffixWorks.NONE]");
        CHECK.due("NONE", -1, () -> AffixWorks.NONE);
        CHECK.due("EMPTY", 8, () -> AffixWorks.EMPTY);
        Constructor<?>[] constructors = AffixWorks.class.getDeclaredConstructors();
        CHECK.same("constructors", constructors.length + " " + constructors[0],
                "1 public AffixWorks()");
        CHECK.same("class", Modifier.toString(AffixWorks.class.getModifiers()), "public final");
    }

    private static String names(Class<?>[] types) {
        StringBuilder text = new StringBuilder();
        for (Class<?> type : types) {
            text.append(text.length() == 0 ? "" : ",").append(type.getSimpleName());
        }
        return text.toString();
    }

    private static void checkNewObject() {
        AffixWorks mill = new AffixWorks();
        CHECK.refused("no machine 0", Check.INDEX, () -> mill.size(0));
        CHECK.refused("no machine to look up in", Check.INDEX, () -> mill.answers(0, false));
        CHECK.due("nothing learnt", -1, () -> mill.guess());
        CHECK.due("no letter typed", 0, () -> mill.clear());
        CHECK.due("first machine", 0, () -> mill.any());
        CHECK.due("first letter", 1, () -> mill.type(0));
        CHECK.due("first lesson", 1, () -> mill.learn(0));
    }

    private static void checkObjectsAreApart() {
        AffixWorks one = new AffixWorks();
        AffixWorks other = new AffixWorks();
        one.type(3);
        one.any();
        one.learn(2);
        CHECK.due("typed in the other", 0, () -> other.clear());
        CHECK.refused("machine of the other", Check.INDEX, () -> other.size(0));
        other.type(3);
        CHECK.due("lessons of the other", -1, () -> other.guess());
    }
}
