/** The edges of promises 1 to 9, a test for each sentence of the document, named after its promise. */
public final class ChanceriesEdgeTest {
    private static final int BAD = Edge.BAD, NO = Edge.NO, FULL = Edge.FULL, NONE = Edge.NONE;
    private static final int MONK = 3, GIRL = 4;

    public static void main(String[] args) {
        Edge.run(ChanceriesEdgeTest.class);
    }

    /** busy(), and THE TEXT is as long as it can be and can be laid. */
    private static void busyAndFull(OtherSideInk ink) {
        Edge.busy(ink);
        ink.wipe();
        Edge.write(ink, "p0,0;" + "a1;".repeat(65));
    }

    private static void busyAndWiped(OtherSideInk ink) {
        Edge.busy(ink);
        ink.wipe();
    }

    private static Edge.Steps busyWith(String text) {
        return ink -> {
            busyAndWiped(ink);
            Edge.write(ink, text);
        };
    }

    // ---- promise 1

    static void promise1IsLaidAsToldAndTheTextIsEmpty(Edge edge) {
        OtherSideInk told = Edge.laid(Edge.FIRST);
        told.wipe();
        edge.holds("as laid with the text told",
                new Portrait(new OtherSideInk()).unlike(new Portrait(told)).isEmpty());
        edge.due("no letters", new OtherSideInk().count(6), 0);
        edge.due("nothing to wipe", new OtherSideInk().wipe(), 0);
        edge.due("an empty text can't be laid", new OtherSideInk().lay(), NO);
    }

    static void promise1NothingIsUndoneKeptSigned(Edge edge) {
        edge.refused("undo", ink -> { }, OtherSideInk::undo, NO);
        edge.refused("back", ink -> { }, OtherSideInk::back, NO);
        edge.asked("forget", ink -> { }, OtherSideInk::forget, 0);
    }

    static void promise1ObjectsStandForThemselves(Edge edge) {
        OtherSideInk one = new OtherSideInk();
        OtherSideInk other = new OtherSideInk();
        Edge.busy(one);
        edge.holds("the other one is new", new Portrait(other).unlike(new Portrait(new OtherSideInk())).isEmpty());
    }

    static void promise1TheLastOf512CallsIsAnswered(Edge edge) {
        OtherSideInk ink = new OtherSideInk();
        for (int i = 0; i < 510; i++) {
            ink.set(i % 4, i % 6, i % 5, i % 11);
        }
        edge.due("call 511", ink.undo(), 7);
        edge.due("call 512", ink.count(2), 20);
    }

    // ---- promise 2

    static void promise2LettersAre32To126(Edge edge) {
        edge.taken("write", Edge::busy, 32, 126, OtherSideInk::write);
    }

    static void promise2AnswersHowLongTheTextIs(Edge edge) {
        OtherSideInk ink = new OtherSideInk();
        for (int i = 1; i <= 200; i++) {
            edge.due("letter " + i, ink.write(32 + (i - 1) % 95), i);
        }
    }

    static void promise2FullAt200(Edge edge) {
        edge.due("199 letters leave room", Edge.written("a".repeat(199)).write('a'), 200);
        edge.refused("the letter beyond 200", ChanceriesEdgeTest::busyAndFull, ink -> ink.write('a'), FULL);
        edge.due("behind wiping there is room", Edge.after(ink -> {
            busyAndFull(ink);
            ink.wipe();
        }).write('a'), 1);
    }

    static void promise2BadBeforeFull(Edge edge) {
        edge.refused("31 beyond 200", ChanceriesEdgeTest::busyAndFull, ink -> ink.write(31), BAD);
        edge.refused("127 beyond 200", ChanceriesEdgeTest::busyAndFull, ink -> ink.write(127), BAD);
    }

    static void promise2ComesBehindTheText(Edge edge) {
        edge.changes("a letter", Edge::busy, ink -> ink.write('x'), 21, "count(6)", "fault()");
        edge.due("it is behind", Edge.written("a1;x").fault(), 3);
        edge.due("not ahead", Edge.written("xa1;").fault(), 0);
    }

    // ---- promise 3

    static void promise3AnswersHowLongTheTextWas(Edge edge) {
        edge.asked("empty", ChanceriesEdgeTest::busyAndWiped, OtherSideInk::wipe, 0);
        edge.changes("one letter", busyWith("x"), OtherSideInk::wipe, 1, "count(6)", "fault()");
        edge.due("200 letters", Edge.after(ChanceriesEdgeTest::busyAndFull).wipe(), 200);
    }

    static void promise3EmptiesTheTextAlone(Edge edge) {
        edge.changes("wipe", Edge::busy, OtherSideInk::wipe, 20, "count(6)");
        OtherSideInk ink = Edge.written("p0,0;x");
        ink.wipe();
        Edge.write(ink, "p1,0;a2;");
        edge.due("nothing of the old one is left", ink.fault(), NONE);
        ink.lay();
        edge.due("the new one counts", ink.person(0, 0), 1);
    }

    // ---- promise 4

    private static void faults(Edge edge, String text, int place) {
        edge.due("\"" + text + "\"", Edge.written(text).fault(), place);
    }

    /** An ITEM with each number from 0 to 99, in one figure, in two, in three. */
    private static void number(Edge edge, String before, String ahead, String behind, int least, int most) {
        for (int n = 0; n <= 99; n++) {
            int place = n >= least && n <= most ? NONE : before.length();
            faults(edge, before + ahead + n + behind, place);
            faults(edge, before + ahead + (n < 10 ? "0" : "") + n + behind, place);
            faults(edge, before + ahead + (n < 10 ? "00" : "0") + n + behind, before.length());
        }
        for (String none : new String[] {"", "-1", "+1", " 1", "1 ", "100", "999", ":", "0:", "1/", "a", "1.0"}) {
            faults(edge, before + ahead + none + behind, before.length());
        }
    }

    static void promise4KindIs0To4(Edge edge) {
        number(edge, "", "p", ",0;", 0, 4);
        number(edge, "a1;", "p", ",5;", 0, 4);
    }

    static void promise4MindIs0To5(Edge edge) {
        number(edge, "", "p0,", ";", 0, 5);
        number(edge, "p0,0;", "p4,", ";a1;", 0, 5);
    }

    static void promise4PersonOfAViewIsToldAhead(Edge edge) {
        String[] ahead = {"", "p0,0;", "p0,0;p0,0;", "p0,0;p0,0;p0,0;p0,0;p0,0;p0,0;"};
        for (String persons : ahead) {
            number(edge, persons, "v", ",0,0;", 0, persons.length() / 5 - 1);
        }
        faults(edge, "p0,0;v1,0,0;p0,0;", 5);
        faults(edge, "v0,0,0;p0,0;", 0);
        faults(edge, "p0,0;p0,0;v1,0,0;", NONE);
    }

    static void promise4ThemeIs0To4(Edge edge) {
        number(edge, "p0,0;", "v0,", ",0;", 0, 4);
    }

    static void promise4ViewIs0To18(Edge edge) {
        number(edge, "p0,0;", "v0,0,", ";", 0, 18);
    }

    static void promise4PapersAre1To5(Edge edge) {
        number(edge, "", "a", ";", 1, 5);
        number(edge, "p0,0;a5;", "a", ";", 1, 5);
    }

    static void promise4PersonsAre6AtMost(Edge edge) {
        for (int persons = 0; persons <= 9; persons++) {
            faults(edge, "p0,0;".repeat(persons), persons <= 6 ? NONE : 30);
            faults(edge, "a5;" + "p4,5;".repeat(persons), persons <= 6 ? NONE : 33);
        }
    }

    static void promise4HowManyNumbers(Edge edge) {
        for (String letter : new String[] {"p", "v", "a"}) {
            int due = letter.equals("p") ? 2 : letter.equals("v") ? 3 : 1;
            StringBuilder item = new StringBuilder(letter);
            faults(edge, "p0,0;" + item, 5);
            faults(edge, "p0,0;" + item + ";", 5);
            for (int numbers = 1; numbers <= 6; numbers++) {
                item.append(numbers == 1 ? "" : ",").append(numbers == 1 && letter.equals("v") ? "0" : "1");
                faults(edge, "p0,0;" + item + ";", numbers == due ? NONE : 5);
                faults(edge, "p0,0;" + item, 5);
                faults(edge, "p0,0;" + item + ",", 5);
                faults(edge, "p0,0;" + item + ",;", 5);
                faults(edge, "p0,0;" + item + ";;", numbers == due ? 6 + item.length() : 5);
            }
        }
    }

    static void promise4EmptyTextHasNone(Edge edge) {
        faults(edge, "", NONE);
        edge.asked("empty", ChanceriesEdgeTest::busyAndWiped, OtherSideInk::fault, NONE);
    }

    static void promise4TheFirstOfSeveral(Edge edge) {
        faults(edge, "xyz", 0);
        faults(edge, "a1;a2;a6;a0;x", 6);
        faults(edge, "p5,0;p6,0;", 0);
        faults(edge, "p0,0;p5,6;v9,9,99;", 5);
        faults(edge, "p0,0;v0,0,18;v0,5,18;v0,0,19;", 13);
    }

    static void promise4AtTheEndOf200Letters(Edge edge) {
        String behind199 = "p0,0;" + "a1;".repeat(62) + "a01;".repeat(2);
        faults(edge, behind199 + "x", 199);
        faults(edge, behind199.substring(0, 195) + "a05;;", 199);
        faults(edge, "p0,0;" + "a1;".repeat(65), NONE);
        faults(edge, "p0,0;" + "a1;".repeat(64) + "a1,", 197);
    }

    private static void asModel(Edge edge, Model model, String text) {
        model.text.setLength(0);
        model.text.append(text);
        faults(edge, text, model.fault());
    }

    /** Each letter put in the stead of each one, ahead of each one; each one left out; each length. */
    static void promise4OneLetterOff(Edge edge) {
        Model model = new Model(Edge.FIRST);
        String text = "a5;p4,5;v0,04,18;";
        for (int at = 0; at <= text.length(); at++) {
            String ahead = text.substring(0, at);
            String behind = text.substring(at);
            asModel(edge, model, ahead);
            for (char letter = 32; letter <= 126; letter++) {
                asModel(edge, model, ahead + letter + behind);
                asModel(edge, model, ahead + letter + (behind.isEmpty() ? "" : behind.substring(1)));
            }
            asModel(edge, model, ahead + (behind.isEmpty() ? "" : behind.substring(1)));
        }
    }

    static void promise4OnlyAsks(Edge edge) {
        edge.asked("without", Edge::busy, OtherSideInk::fault, NONE);
        edge.asked("with", busyWith("p0,0;v0,0,0;p3,3;v1,5,0;"), OtherSideInk::fault, 17);
    }

    // ---- promise 5

    static void promise5NoWithoutAPerson(Edge edge) {
        edge.refused("empty", ChanceriesEdgeTest::busyAndWiped, OtherSideInk::lay, NO);
        edge.refused("papers alone", busyWith("a1;a5;"), OtherSideInk::lay, NO);
    }

    static void promise5NoWithAFault(Edge edge) {
        edge.refused("at the first", busyWith("x"), OtherSideInk::lay, NO);
        edge.refused("at the last", busyWith("p0,0;p3,0;v1,4,18;a5;a"), OtherSideInk::lay, NO);
        edge.refused("a seventh", busyWith("p0,0;".repeat(7)), OtherSideInk::lay, NO);
        edge.refused("not told ahead", busyWith("p0,0;v1,0,0;p0,0;"), OtherSideInk::lay, NO);
    }

    static void promise5NoWithNobodyThereInMind(Edge edge) {
        edge.refused("the only one", busyWith("p0,1;"), OtherSideInk::lay, NO);
        edge.refused("the first one", busyWith("p0,2;p0,0;"), OtherSideInk::lay, NO);
        edge.refused("the last one", busyWith("p0,0;p0,0;p0,3;"), OtherSideInk::lay, NO);
        for (int persons = 1; persons <= 6; persons++) {
            String others = "p0,0;".repeat(persons - 1);
            for (int m = 0; m <= 5; m++) {
                int answer = m < persons ? persons : NO;
                edge.due(persons + ", the last with " + m, Edge.written(others + "p0," + m + ";").lay(), answer);
                edge.due(persons + ", the first with " + m, Edge.written("p0," + m + ";" + others).lay(), answer);
            }
        }
    }

    static void promise5AnswersHowManyPersons(Edge edge) {
        for (int persons = 1; persons <= 6; persons++) {
            OtherSideInk ink = Edge.written("p0,0;".repeat(persons) + "a2;");
            edge.due(persons + " PERSONS", ink.lay(), persons);
            edge.due(persons + " are counted", ink.count(0), persons);
        }
    }

    static void promise5PapersAreAsTold(Edge edge) {
        edge.due("3 without", Edge.laid("p0,0;").count(1), 3);
        for (int papers = 1; papers <= 5; papers++) {
            edge.due("the only one", Edge.laid("a" + papers + ";p0,0;").count(1), papers);
            for (int others = 1; others <= 5; others++) {
                edge.due("the last one", Edge.laid("a" + others + ";p0,0;a" + papers + ";").count(1), papers);
            }
        }
        edge.due("3 without, behind five", Edge.after(ink -> {
            Edge.laying(Edge.MOST).on(ink);
            ink.wipe();
            Edge.laying("p0,0;").on(ink);
        }).count(1), 3);
    }

    static void promise5ViewsAreAsTold(Edge edge) {
        for (int v = 0; v <= 18; v++) {
            edge.due("of the first", Edge.laid("p0,0;v0,0," + v + ";").view(0, 0), v);
            edge.due("of the last", Edge.laid("p0,5;p0,5;p0,5;p0,5;p0,5;p0,5;v5,4," + v + ";").view(5, 4), v);
            edge.due("the last one of each", Edge.laid("p0,0;v0,2,3;v0,2," + v + ";v0,3,4;").view(0, 2), v);
        }
        OtherSideInk ink = Edge.laid(Edge.MOST);
        ink.wipe();
        Edge.laying("p0,5;p0,5;p0,5;p0,5;p0,5;p0,5;").on(ink);
        for (int p = 0; p < 6; p++) {
            for (int t = 0; t < 5; t++) {
                edge.due("0 without, behind others", ink.view(p, t), 9);
            }
        }
    }

    static void promise5AllPapersAreEmpty(Edge edge) {
        OtherSideInk ink = Edge.laid(Edge.MOST);
        for (int a = 0; a < 5; a++) {
            for (int t = 0; t < 5; t++) {
                ink.set(a, GIRL, t, 0);
            }
        }
        edge.due("all are written", ink.count(2), 25);
        edge.due("laid once more", ink.lay(), 6);
        edge.due("none is", ink.count(2), 0);
        for (int a = 0; a < 5; a++) {
            edge.lines("laid once more", ink, a, NONE, NONE, NONE, NONE, NONE);
        }
    }

    static void promise5NothingIsSignedUndoneKept(Edge edge) {
        OtherSideInk ink = Edge.after(Edge::busy);
        edge.due("laid", ink.lay(), 2);
        edge.due("SIGNED", ink.count(3), 0);
        edge.due("UNDONE", ink.count(4), 0);
        edge.due("KEPT", ink.count(5), 0);
        edge.due("undo", ink.undo(), NO);
        edge.due("back", ink.back(), NO);
        OtherSideInk again = Edge.after(Edge::busy);
        again.lay();
        OtherSideInk fresh = Edge.laid("p3,1;p0,1;v0,2,5;a1;");
        edge.holds("as a new one", new Portrait(again).unlike(new Portrait(fresh)).isEmpty());
    }

    static void promise5TheTextStays(Edge edge) {
        OtherSideInk ink = Edge.written("p0,0;a2;");
        ink.lay();
        edge.due("its length", ink.count(6), 8);
        ink.write('x');
        edge.due("behind it", ink.fault(), 8);
        ink.wipe();
        edge.due("wiped, what is laid stays", ink.count(1), 2);
    }

    // ---- promises 6 to 9

    static void promise6Bounds(Edge edge) {
        edge.taken("person of 3", Edge::busy, 0, 2, (ink, p) -> ink.person(p, 1));
        edge.taken("person of 6", Edge.laying(Edge.MOST), 0, 5, (ink, p) -> ink.person(p, 0));
        edge.taken("person of 1", Edge::least, 0, 0, (ink, p) -> ink.person(p, 0));
        edge.taken("what", Edge::busy, 0, 1, (ink, what) -> ink.person(2, what));
    }

    static void promise6KindAndMindAreAsTold(Edge edge) {
        for (int kind = 0; kind <= 4; kind++) {
            for (int m = 0; m <= 5; m++) {
                OtherSideInk ink = Edge.laid("p0,0;p0,0;p0,0;p0,0;p0,0;p" + kind + "," + m + ";");
                edge.due("KIND", ink.person(5, 0), kind);
                edge.due("in mind", ink.person(5, 1), m);
            }
        }
        edge.asked("KIND", Edge::busy, ink -> ink.person(2, 0), 2);
        edge.asked("in mind", Edge::busy, ink -> ink.person(0, 1), 2);
    }

    static void promise7Bounds(Edge edge) {
        edge.taken("person of 3", Edge::busy, 0, 2, (ink, p) -> ink.view(p, 0));
        edge.taken("person of 6", Edge.laying(Edge.MOST), 0, 5, (ink, p) -> ink.view(p, 4));
        edge.taken("person of 1", Edge::least, 0, 0, (ink, p) -> ink.view(p, 0));
        edge.taken("theme", Edge::busy, 0, 4, (ink, t) -> ink.view(2, t));
        edge.asked("a view", Edge::busy, ink -> ink.view(1, 0), 16);
    }

    static void promise8Bounds(Edge edge) {
        edge.taken("paper of 3", Edge::busy, 0, 2, (ink, a) -> ink.line(a, 0));
        edge.taken("paper of 5", Edge.laying(Edge.MOST), 0, 4, (ink, a) -> ink.line(a, 4));
        edge.taken("paper of 1", Edge::least, 0, 0, (ink, a) -> ink.line(a, 0));
        edge.taken("theme", Edge::busy, 0, 4, (ink, t) -> ink.line(1, t));
    }

    static void promise8EmptyIsNoneAndBadComesFirst(Edge edge) {
        edge.asked("empty", Edge::busy, ink -> ink.line(0, 1), NONE);
        edge.asked("not empty", Edge::busy, ink -> ink.line(0, 0), 16);
        edge.asked("BAD though empty", Edge.laying(Edge.THREE), ink -> ink.line(3, 0), BAD);
        edge.asked("BAD though the next is empty", Edge::busy, ink -> ink.line(0, 5), BAD);
    }

    static void promise8LeastAndGreatest(Edge edge) {
        OtherSideInk ink = Edge.laid("p0,0;v0,0,0;v0,1,18;v0,2,9;");
        for (int t = 0; t < 3; t++) {
            ink.set(2, 0, t, 0);
        }
        edge.lines("least, greatest, 0", ink, 2, 0, 18, 9, NONE, NONE);
    }

    static void promise9Bounds(Edge edge) {
        edge.taken("person of 3", Edge::busy, 0, 2, (ink, p) -> ink.would(p, 0, 0));
        edge.taken("person of 6", Edge.laying(Edge.MOST), 0, 5, (ink, p) -> ink.would(p, 0, 0));
        edge.taken("person of 1", Edge::least, 0, 0, (ink, p) -> ink.would(p, 0, 0));
        edge.taken("theme", Edge::busy, 0, 4, (ink, t) -> ink.would(2, t, 3));
        edge.taken("tears", Edge::busy, 0, 10, (ink, n) -> ink.would(0, 0, n));
        edge.asked("would", Edge::busy, ink -> ink.would(0, 0, 0), 11);
    }

    private static int inked(int kind, int thought, int own, int n) {
        if (kind == MONK || kind == GIRL) {
            return kind == MONK ? 0 : 9;
        }
        int tears = kind == 1 ? 0 : n;
        int other = kind == 2 ? -thought : thought;
        int tenfold = 0;
        for (int drop = 0; drop < 10; drop++) {
            tenfold += drop < tears ? own : other;
        }
        return tenfold < 0 ? -(-tenfold / 10) : tenfold / 10;
    }

    /** Every KIND, every VIEW of whom he has in mind, every own VIEW, all TEARS: what is cut is cut toward 0. */
    static void promise9WhatEachKindWrites(Edge edge) {
        for (int kind = 0; kind <= 4; kind++) {
            for (int thought = 0; thought <= 18; thought++) {
                OtherSideInk ink = Edge.laid("p" + kind + ",1;p0,0;v1,2," + thought + ";");
                for (int own = 0; own <= 18; own++) {
                    ink.think(0, 2, own);
                    for (int n = 0; n <= 10; n++) {
                        edge.due("KIND " + kind + ", " + thought + ", " + own + ", " + n, ink.would(0, 2, n),
                                inked(kind, thought - 9, own - 9, n) + 9);
                    }
                }
            }
        }
    }
}
