import java.lang.reflect.Constructor;
import java.lang.reflect.Field;
import java.lang.reflect.Method;
import java.lang.reflect.Modifier;
import java.util.ArrayList;
import java.util.List;
import java.util.TreeSet;

/** The face is the document's and nothing more, and no numbers make a call throw. */
public final class FaceTest {
    private static final Check CHECK = new Check("FaceTest");

    private static final String[] CALLS = {
        "int write(int)", "int wipe()", "int fault()", "int lay()", "int person(int,int)", "int view(int,int)",
        "int line(int,int)", "int would(int,int,int)", "int set(int,int,int,int)", "int erase(int,int,int)",
        "int copy(int,int,int)", "int think(int,int,int)", "int mind(int,int)", "int undo()", "int own(int,int)",
        "int tears(int,int,int)", "int whom(int,int,int)", "int treaty(int,int,int)", "int round(int,int,int)",
        "int again(int,int)", "int least(int,int,int)", "int sign(int,int)", "int forget()", "int who(int)",
        "int views(int,int,int)", "long drops(int,int,int,int,int)", "int weeks(int,int,int)", "int keep()",
        "int back()", "int count(int)"};

    private static final int[] WILD = {
        Integer.MIN_VALUE, Integer.MIN_VALUE + 1, -1000000, -6, -5, -4, -3, -2, -1, 0, 1, 2, 3, 4, 5, 6, 7, 8, 9, 10,
        11, 18, 19, 40, 60, 61, 126, 127, 9999, 10000, 858993459, 858993460, Integer.MAX_VALUE - 1, Integer.MAX_VALUE};

    public static void main(String[] args) throws Exception {
        face();
        constants();
        wildNumbers();
        CHECK.end();
    }

    private static String told(Method method) {
        List<String> kinds = new ArrayList<>();
        for (Class<?> kind : method.getParameterTypes()) {
            kinds.add(kind.getName());
        }
        return method.getReturnType().getName() + " " + method.getName() + "(" + String.join(",", kinds) + ")";
    }

    private static void face() {
        TreeSet<String> open = new TreeSet<>();
        TreeSet<String> openNames = new TreeSet<>();
        TreeSet<String> closedNames = new TreeSet<>();
        for (Method method : OtherSideInk.class.getDeclaredMethods()) {
            if (method.isSynthetic()) {
                continue;
            }
            if (Modifier.isPrivate(method.getModifiers())) {
                closedNames.add(method.getName());
            } else {
                CHECK.holds(method + " is public", Modifier.isPublic(method.getModifiers()));
                open.add(told(method));
                openNames.add(method.getName());
            }
        }
        CHECK.holds("the calls are the document's: " + open, open.equals(new TreeSet<>(List.of(CALLS))));
        for (Class<?> inside : OtherSideInk.class.getDeclaredClasses()) {
            CHECK.holds(inside + " is static", Modifier.isStatic(inside.getModifiers()));
            CHECK.holds(inside + " is not open", !Modifier.isPublic(inside.getModifiers())
                    && !Modifier.isProtected(inside.getModifiers()));
            for (Method method : inside.getDeclaredMethods()) {
                if (Modifier.isPrivate(method.getModifiers())) {
                    closedNames.add(method.getName());
                }
            }
        }
        closedNames.retainAll(openNames);
        CHECK.holds("private methods with names of public ones: " + closedNames, closedNames.isEmpty());
        CHECK.holds("public final", Modifier.isPublic(OtherSideInk.class.getModifiers())
                && Modifier.isFinal(OtherSideInk.class.getModifiers()));
        Constructor<?>[] constructors = OtherSideInk.class.getDeclaredConstructors();
        CHECK.due("constructors", constructors.length, 1);
        CHECK.due("numbers of the constructor", constructors[0].getParameterCount(), 0);
    }

    private static void constants() {
        CHECK.due("BAD", OtherSideInk.BAD, -1);
        CHECK.due("NO", OtherSideInk.NO, -2);
        CHECK.due("FULL", OtherSideInk.FULL, -3);
        CHECK.due("NONE", OtherSideInk.NONE, -4);
        TreeSet<String> open = new TreeSet<>();
        for (Field field : OtherSideInk.class.getDeclaredFields()) {
            if (!Modifier.isPrivate(field.getModifiers())) {
                open.add(field.getName());
            }
        }
        CHECK.holds("constants are the document's: " + open,
                open.equals(new TreeSet<>(List.of("BAD", "NO", "FULL", "NONE"))));
    }

    /** Every call with every wild number at every place, the others being ones that are told. */
    private static void wildNumbers() throws Exception {
        for (Method method : OtherSideInk.class.getDeclaredMethods()) {
            if (!Modifier.isPublic(method.getModifiers())) {
                continue;
            }
            int places = method.getParameterCount();
            for (int place = 0; place < places; place++) {
                OtherSideInk ink = new OtherSideInk();
                for (int wild : WILD) {
                    Object[] numbers = new Object[places];
                    for (int i = 0; i < places; i++) {
                        numbers[i] = i == place ? wild : (i + 1) % 3;
                    }
                    long got = ((Number) method.invoke(ink, numbers)).longValue();
                    CHECK.holds(method.getName() + " answers -4 or more: " + got, got >= -4);
                    boolean neverTold = wild < 0 || wild >= 10000;
                    if (neverTold) {
                        CHECK.due(method.getName() + " with " + wild, got, OtherSideInk.BAD);
                    }
                }
            }
        }
    }
}
