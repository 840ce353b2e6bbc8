import java.lang.reflect.InvocationTargetException;
import java.lang.reflect.Method;
import java.lang.reflect.Modifier;
import java.util.List;
import java.util.TreeMap;
import java.util.TreeSet;

/** What the tests of the edges share: chanceries to begin with, and what a call may change. */
final class Edge {
    static final int BAD = -1, NO = -2, FULL = -3, NONE = -4;

    /** All that a new object begins with, as the document tells it. */
    static final String FIRST = "p0,1;p0,0;p1,0;p2,3;p3,1;p4,0;v0,0,14;v0,1,6;v0,2,18;v1,0,2;v1,1,9;v1,3,16;"
            + "v2,0,11;v2,4,0;v3,0,18;v3,2,3;v4,0,7;v5,1,4;a4;";
    /** Two PLAIN ones and a POET; on THEME 0 they are 5, -5 and 2. */
    static final String THREE = "p0,1;p0,0;p2,1;v0,0,14;v1,0,4;v2,0,11;v0,1,12;a3;";
    /** As many PERSONS and PAPERS as there can be, each with the last one in mind. */
    static final String MOST = "p0,5;p1,5;p2,5;p3,5;p4,5;p0,5;v0,0,12;v5,0,18;v5,4,0;a5;";
    /** As few as there can be. */
    static final String LEAST = "p0,0;v0,0,12;a1;";

    interface Steps {
        void on(OtherSideInk ink);
    }

    interface Call {
        long on(OtherSideInk ink);
    }

    interface Numbered {
        long on(OtherSideInk ink, int number);
    }

    /** Ways to look below what stands: what is UNDONE, what is KEPT, THE TEXT. */
    private static final int UNDOS = 8, BACKS = 2, WAYS = 1 + UNDOS + BACKS + 1;

    private final Check check;
    private String test = "";

    private Edge(Check check) {
        this.check = check;
    }

    /** Runs every test of a class, by its name; each is named after its promise. */
    static void run(Class<?> tests) {
        Check check = new Check(tests.getSimpleName());
        Edge edge = new Edge(check);
        TreeMap<String, Method> byName = new TreeMap<>();
        for (Method method : tests.getDeclaredMethods()) {
            if (method.getName().matches("promise\\d+[A-Z].*")) {
                byName.put(method.getName(), method);
            }
        }
        check.holds("there are tests", !byName.isEmpty());
        for (Method method : byName.values()) {
            check.holds(method.getName() + " is static", Modifier.isStatic(method.getModifiers()));
            edge.test = method.getName();
            try {
                method.setAccessible(true);
                method.invoke(null, edge);
            } catch (InvocationTargetException | IllegalAccessException thrown) {
                check.holds(method.getName() + " ends without " + thrown.getCause(), false);
            }
        }
        check.end();
    }

    static void write(OtherSideInk ink, String text) {
        for (int i = 0; i < text.length(); i++) {
            ink.write(text.charAt(i));
        }
    }

    /** THE TEXT is this one, and it has been asked for its FAULT: what stands is another one. */
    static void read(OtherSideInk ink, String text) {
        ink.wipe();
        write(ink, text);
        ink.fault();
    }

    static OtherSideInk written(String text) {
        OtherSideInk ink = new OtherSideInk();
        write(ink, text);
        return ink;
    }

    static Steps laying(String text) {
        return ink -> {
            write(ink, text);
            ink.lay();
        };
    }

    static OtherSideInk laid(String text) {
        return after(laying(text));
    }

    static OtherSideInk after(Steps before) {
        OtherSideInk ink = new OtherSideInk();
        before.on(ink);
        return ink;
    }

    /** As few as there can be, while the latest text read has as many: FAULT only asks, too. */
    static void least(OtherSideInk ink) {
        laying(LEAST).on(ink);
        read(ink, MOST);
    }

    /**
     * Laid with THREE; ten changes, so that two dropped out; two KEPT; SIGNED is one; THE TEXT can be laid, and it
     * has been read, with fewer PERSONS and PAPERS than there are.
     */
    static void busy(OtherSideInk ink) {
        laying(THREE).on(ink);
        ink.set(0, 0, 0, 3);
        ink.think(1, 0, 16);
        ink.keep();
        ink.erase(0, 1, 0);
        ink.mind(0, 2);
        ink.keep();
        ink.copy(0, 1, 0);
        ink.set(1, 2, 4, 10);
        ink.think(2, 3, 0);
        ink.mind(2, 2);
        ink.set(2, 1, 0, 0);
        ink.erase(1, 0, 4);
        ink.sign(0, 14);
        read(ink, "p3,1;p0,1;v0,2,5;a1;");
    }

    void due(String what, long got, long want) {
        check.due(test + ": " + what, got, want);
    }

    void holds(String what, boolean so) {
        check.holds(test + ": " + what, so);
    }

    void lines(String what, OtherSideInk ink, int a, int... says) {
        for (int t = 0; t < says.length; t++) {
            due(what + ", line(" + a + ", " + t + ")", ink.line(a, t), says[t]);
        }
    }

    /** Way 0 looks at what stands, 1 to 8 at what as many UNDONE leave, 9 and 10 below what is KEPT, 11 at THE TEXT. */
    private static long look(OtherSideInk ink, int way) {
        if (way == WAYS - 1) {
            return ink.lay();
        }
        long last = 0;
        int undos = way <= UNDOS ? way : 0;
        int backs = way - UNDOS;
        for (int i = 0; i < undos; i++) {
            last = ink.undo();
        }
        for (int i = 0; i < backs; i++) {
            last = ink.back();
        }
        return last;
    }

    /** The call answers so, and behind it everything is as it was, whatever can be seen of it, also later on. */
    void refused(String what, Steps before, Call call, long answer) {
        for (int way = 0; way < WAYS; way++) {
            OtherSideInk one = after(before);
            OtherSideInk other = after(before);
            due(what, call.on(one), answer);
            due(what + ", then way " + way, look(one, way), look(other, way));
            TreeSet<String> unlike = new Portrait(one).unlike(new Portrait(other));
            holds(what + " changed, way " + way + ": " + unlike, unlike.isEmpty());
        }
    }

    /** The call answers so and only asks: everything is as it was behind it. */
    void asked(String what, Steps before, Call call, long answer) {
        refused(what, before, call, answer);
    }

    /** The call answers so, and these calls and no other ones are answered otherwise behind it. */
    void changes(String what, Steps before, Call call, long answer, String... calls) {
        OtherSideInk one = after(before);
        due(what, call.on(one), answer);
        TreeSet<String> unlike = new Portrait(one).unlike(new Portrait(after(before)));
        holds(what + " changed " + unlike, unlike.equals(new TreeSet<>(List.of(calls))));
    }

    /** From the least to the most each number is taken; the first ones beyond and far ones are BAD, nothing changes. */
    void taken(String what, Steps before, int least, int most, Numbered call) {
        for (int number = least; number <= most; number++) {
            long got = call.on(after(before), number);
            holds(what + " takes " + number + ": " + got, got != BAD);
        }
        for (int number : new int[] {least - 1, most + 1}) {
            refused(what + " with " + number, before, ink -> call.on(ink, number), BAD);
        }
        for (int number : new int[] {Integer.MIN_VALUE, -1000000, 1000000, 858993460, Integer.MAX_VALUE}) {
            due(what + " with " + number, call.on(after(before), number), BAD);
        }
    }
}
