import java.util.LinkedHashMap;
import java.util.Map;
import java.util.TreeSet;

/** All that an object tells of how it stands, call by call. */
final class Portrait {
    private final Map<String, Long> answers = new LinkedHashMap<>();

    /** Takes at most 90 of the 512 calls of the object. */
    Portrait(OtherSideInk ink) {
        for (int i = 0; i < 7; i++) {
            put("count(" + i + ")", ink.count(i));
        }
        for (int p = 0; p < ink.count(0); p++) {
            put("person(" + p + ", 0)", ink.person(p, 0));
            put("person(" + p + ", 1)", ink.person(p, 1));
            for (int t = 0; t < 5; t++) {
                put("view(" + p + ", " + t + ")", ink.view(p, t));
            }
        }
        for (int a = 0; a < ink.count(1); a++) {
            for (int t = 0; t < 5; t++) {
                put("line(" + a + ", " + t + ")", ink.line(a, t));
            }
        }
        put("fault()", ink.fault());
        put("who(0)", ink.who(0));
        put("who(1)", ink.who(1));
        for (int t = 0; t < 5; t++) {
            put("views(0, " + t + ", 10)", ink.views(0, t, 10));
        }
    }

    private void put(String call, long answer) {
        answers.put(call, answer);
    }

    /** The calls that are answered otherwise, or by one of the two alone. */
    TreeSet<String> unlike(Portrait other) {
        TreeSet<String> calls = new TreeSet<>(answers.keySet());
        calls.addAll(other.answers.keySet());
        calls.removeIf(call -> answers.containsKey(call) && answers.get(call).equals(other.answers.get(call)));
        return calls;
    }
}
