import java.util.Random;

/** Runs of drawn calls, each asked of the class and of the second reading; the draws are the same each time. */
public final class ModelTest {
    private static final String FIRST = "p0,1;p0,0;p1,0;p2,3;p3,1;p4,0;v0,0,14;v0,1,6;v0,2,18;v1,0,2;v1,1,9;v1,3,16;"
            + "v2,0,11;v2,4,0;v3,0,18;v3,2,3;v4,0,7;v5,1,4;a4;";
    private static final int RUNS = 4000;
    private static final int CALLS = 512;
    private static final Check CHECK = new Check("ModelTest");

    private final Random random;
    private final OtherSideInk ink = new OtherSideInk();
    private final Model model = new Model(FIRST);
    private final int run;
    private int calls;

    private ModelTest(int run) {
        this.run = run;
        random = new Random(run);
    }

    public static void main(String[] args) {
        for (int run = 0; run < RUNS; run++) {
            new ModelTest(run).go();
        }
        CHECK.end();
    }

    private void go() {
        boolean laid = run % 4 != 0;
        if (laid) {
            layDrawn();
        }
        while (calls < CALLS) {
            step();
        }
    }

    private void due(String call, long got, long want) {
        calls++;
        CHECK.due("run " + run + ", call " + calls + ", " + call, got, want);
    }

    private void layDrawn() {
        due("wipe()", ink.wipe(), model.wipe());
        String text = drawnText();
        for (int i = 0; i < text.length(); i++) {
            due("write", ink.write(text.charAt(i)), model.write(text.charAt(i)));
        }
        due("fault() of " + text, ink.fault(), model.fault());
        due("lay() of " + text, ink.lay(), model.lay());
    }

    private String number(int most) {
        int n = random.nextInt(60) == 0 ? most + 1 + random.nextInt(3) : random.nextInt(most + 1);
        if (random.nextInt(80) == 0) {
            return String.format("%03d", n);
        }
        return random.nextInt(10) == 0 ? String.format("%02d", n) : "" + n;
    }

    private String drawnText() {
        StringBuilder text = new StringBuilder();
        int persons = random.nextInt(25) == 0 ? 7 : random.nextInt(20) == 0 ? 0 : 1 + random.nextInt(6);
        for (int p = 0; p < persons; p++) {
            int m = random.nextInt(40) == 0 ? 5 : Math.max(0, persons - 1);
            text.append('p').append(number(4)).append(',').append(Math.min(6, random.nextInt(m + 1))).append(';');
        }
        int views = random.nextInt(20);
        for (int i = 0; i < views; i++) {
            text.append('v').append(random.nextInt(Math.max(1, persons))).append(',').append(number(4)).append(',')
                    .append(number(18)).append(';');
        }
        for (int i = random.nextInt(3); i > 0; i--) {
            text.append('a').append(random.nextInt(30) == 0 ? random.nextInt(8) : 1 + random.nextInt(5)).append(';');
        }
        if (random.nextInt(8) == 0 && text.length() > 0) {
            int at = random.nextInt(text.length());
            text.setCharAt(at, "pva,;0129 x~".charAt(random.nextInt(12)));
        }
        if (random.nextInt(12) == 0 && text.length() > 0) {
            text.setLength(random.nextInt(text.length()));
        }
        return text.toString();
    }

    /** Mostly a number that is told. */
    private int to(int most) {
        return random.nextInt(40) == 0 ? (random.nextBoolean() ? -1 : most + 1) : random.nextInt(most + 1);
    }

    private int p() {
        return to(Math.max(0, model.state.kinds.size() - 1));
    }

    private int a() {
        return to(model.state.papers.size() - 1);
    }

    private void step() {
        switch (random.nextInt(9)) {
            case 0: case 1: case 2: stepPapers(); break;
            case 3: stepReading(); break;
            case 4: case 5: stepWould(); break;
            case 6: case 7: stepSigned(); break;
            default: stepRest(); break;
        }
    }

    private void stepPapers() {
        int a = a(), b = a(), p = p(), q = p(), t = to(4), n = to(10), v = to(18);
        switch (random.nextInt(12)) {
            case 0: case 1: case 2: case 3:
                due("set(" + a + "," + p + "," + t + "," + n + ")", ink.set(a, p, t, n), model.set(a, p, t, n)); break;
            case 4: case 5:
                due("erase(" + a + "," + p + "," + t + ")", ink.erase(a, p, t), model.erase(a, p, t)); break;
            case 6: case 7:
                due("copy(" + a + "," + b + "," + p + ")", ink.copy(a, b, p), model.copy(a, b, p)); break;
            case 8:
                due("think(" + p + "," + t + "," + v + ")", ink.think(p, t, v), model.think(p, t, v)); break;
            case 9:
                due("mind(" + p + "," + q + ")", ink.mind(p, q), model.mind(p, q)); break;
            default:
                due("undo()", ink.undo(), model.undo()); break;
        }
    }

    private void stepReading() {
        int a = a(), p = p(), t = to(4), what = to(1), n = to(10);
        switch (random.nextInt(4)) {
            case 0: due("person(" + p + "," + what + ")", ink.person(p, what), model.person(p, what)); break;
            case 1: due("view(" + p + "," + t + ")", ink.view(p, t), model.view(p, t)); break;
            case 2: due("line(" + a + "," + t + ")", ink.line(a, t), model.line(a, t)); break;
            default: due("would(" + p + "," + t + "," + n + ")", ink.would(p, t, n), model.would(p, t, n)); break;
        }
    }

    private void stepWould() {
        int a = a(), p = p(), q = p(), t = to(4), v = to(18), n = to(10), k = to(60), what = to(1);
        switch (random.nextInt(7)) {
            case 0: due("own(" + a + "," + p + ")", ink.own(a, p), model.own(a, p)); break;
            case 1: due("tears(" + p + "," + t + "," + v + ")", ink.tears(p, t, v), model.tears(p, t, v)); break;
            case 2: due("whom(" + p + "," + t + "," + v + ")", ink.whom(p, t, v), model.whom(p, t, v)); break;
            case 3: due("treaty(" + p + "," + q + "," + n + ")", ink.treaty(p, q, n), model.treaty(p, q, n)); break;
            case 4: due("round(" + a + "," + t + "," + k + ")", ink.round(a, t, k), model.round(a, t, k)); break;
            case 5: due("again(" + a + "," + what + ")", ink.again(a, what), model.again(a, what)); break;
            default: due("least(" + a + "," + p + "," + what + ")", ink.least(a, p, what), model.least(a, p, what));
        }
    }

    private void stepSigned() {
        int p = p(), t = to(4), v = to(18), n = to(10), what = to(1);
        switch (random.nextInt(9)) {
            case 0: due("forget()", ink.forget(), model.forget()); break;
            case 1: due("sign(" + t + "," + v + ")", ink.sign(t, v), model.sign(t, v)); break;
            case 2: case 3: case 4: {
                // what somebody would write, so that WHO and VIEWS are seldom empty
                int said = model.would(p, t, n) < 0 ? 9 : model.would(p, t, n);
                due("sign(" + t + "," + said + ")", ink.sign(t, said), model.sign(t, said));
                due("views(" + p + "," + t + "," + n + ")", ink.views(p, t, n), model.views(p, t, n));
                break;
            }
            case 5: case 6: due("who(" + what + ")", ink.who(what), model.who(what)); break;
            default: due("views(" + p + "," + t + "," + n + ")", ink.views(p, t, n), model.views(p, t, n)); break;
        }
    }

    private void stepRest() {
        int p = p(), t = to(4), v = to(18), x = to(10), what = to(1), z = to(9999), n = to(60), c = to(6);
        switch (random.nextInt(16)) {
            case 0: case 1: case 2: {
                int likely = Math.max(0, model.would(p, t, x));
                int say = random.nextBoolean() ? v : likely;
                due("drops(" + p + "," + t + "," + say + "," + x + "," + what + ")",
                        ink.drops(p, t, say, x, what), model.drops(p, t, say, x, what));
                break;
            }
            case 3: case 4: due("weeks(" + z + "," + n + "," + what + ")",
                    ink.weeks(z, n, what), model.weeks(z, n, what)); break;
            case 5: case 6: due("keep()", ink.keep(), model.keep()); break;
            case 7: case 8: due("back()", ink.back(), model.back()); break;
            case 9: case 10: case 11: case 12: due("count(" + c + ")", ink.count(c), model.count(c)); break;
            case 13: {
                int letter = to(126);
                due("write(" + letter + ")", ink.write(letter), model.write(letter));
                break;
            }
            case 14: due("fault()", ink.fault(), model.fault()); break;
            default:
                if (random.nextInt(6) == 0) {
                    layDrawn();
                } else {
                    due("lay()", ink.lay(), model.lay());
                }
                break;
        }
    }
}
