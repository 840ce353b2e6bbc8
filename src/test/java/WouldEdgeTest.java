/** The edges of promises 16 to 22, a test for each sentence of the document, named after its promise. */
public final class WouldEdgeTest {
    private static final int BAD = Edge.BAD, NONE = Edge.NONE;
    /** Six PLAIN ones who have the next one in mind, their VIEWS 0, 3, 9, 9, 15, 18 on every THEME. */
    private static final String RISING = rising("p0,1;p0,2;p0,3;p0,4;p0,5;p0,0;");

    public static void main(String[] args) {
        Edge.run(WouldEdgeTest.class);
    }

    private static String rising(String persons) {
        int[] views = {0, 3, 9, 9, 15, 18};
        StringBuilder text = new StringBuilder(persons);
        for (int p = 0; p < persons.length() / 5; p++) {
            for (int t = 0; t < 5 && views[p] != 9; t++) {
                text.append('v').append(p).append(',').append(t).append(',').append(views[p]).append(';');
            }
        }
        return text.append("a5;").toString();
    }

    /** PAPER 4 says 12 all over, PAPER 0 on THEMES 0 to 3 alone. */
    private static void papers(OtherSideInk ink) {
        Edge.laying(Edge.MOST).on(ink);
        for (int t = 0; t < 5; t++) {
            ink.think(0, t, 12);
            ink.set(4, 0, t, 10);
            if (t < 4) {
                ink.set(0, 0, t, 10);
            }
        }
        Edge.read(ink, Edge.LEAST);
    }

    private static void onePaper(OtherSideInk ink) {
        Edge.least(ink);
        for (int t = 0; t < 5; t++) {
            ink.set(0, 0, t, 0);
        }
    }

    // ---- promise 16

    static void promise16Bounds(Edge edge) {
        edge.taken("paper of 3", Edge::busy, 0, 2, (ink, a) -> ink.own(a, 0));
        edge.taken("paper of 5", WouldEdgeTest::papers, 0, 4, (ink, a) -> ink.own(a, 5));
        edge.taken("paper of 1", WouldEdgeTest::onePaper, 0, 0, (ink, a) -> ink.own(a, 0));
        edge.taken("person of 3", Edge::busy, 0, 2, (ink, p) -> ink.own(0, p));
        edge.taken("person of 6", WouldEdgeTest::papers, 0, 5, (ink, p) -> ink.own(4, p));
        edge.taken("person of 1", WouldEdgeTest::onePaper, 0, 0, (ink, p) -> ink.own(0, p));
    }

    static void promise16NoneAllAndEmptyLines(Edge edge) {
        edge.asked("all", WouldEdgeTest::papers, ink -> ink.own(4, 0), 31);
        edge.asked("none", WouldEdgeTest::papers, ink -> ink.own(4, 1), 0);
        edge.asked("but the empty one", WouldEdgeTest::papers, ink -> ink.own(0, 0), 15);
        edge.asked("all are empty, the VIEWS are 0", Edge.laying(Edge.THREE), ink -> ink.own(0, 2), 0);
    }

    static void promise16EachTheme(Edge edge) {
        for (int t = 0; t < 5; t++) {
            for (int v = 0; v <= 18; v++) {
                OtherSideInk ink = Edge.laid("p0,0;v0," + t + "," + v + ";a2;");
                ink.set(1, 0, t, 0);
                edge.due("his own", ink.own(1, 0), 1 << t);
                ink.think(0, t, v == 0 ? 1 : v - 1);
                edge.due("his own no more", ink.own(1, 0), 0);
            }
        }
    }

    // ---- promise 17

    static void promise17Bounds(Edge edge) {
        edge.taken("person of 3", Edge::busy, 0, 2, (ink, p) -> ink.tears(p, 0, 9));
        edge.taken("person of 6", Edge.laying(Edge.MOST), 0, 5, (ink, p) -> ink.tears(p, 0, 9));
        edge.taken("person of 1", Edge::least, 0, 0, (ink, p) -> ink.tears(p, 0, 9));
        edge.taken("theme", Edge::busy, 0, 4, (ink, t) -> ink.tears(2, t, 9));
        edge.taken("view", Edge::busy, 0, 18, (ink, v) -> ink.tears(0, 0, v));
    }

    static void promise17TheFewest0To10(Edge edge) {
        // from -9 to 9: 18 n by 10 less 9, each of the eleven another one
        int[] says = {0, 2, 4, 6, 8, 9, 10, 12, 14, 16, 18};
        OtherSideInk ink = Edge.laid("p0,1;p0,0;v0,0,18;v1,0,0;");
        for (int n = 0; n <= 10; n++) {
            edge.due(n + " TEARS", ink.tears(0, 0, says[n]), n);
        }
        for (int v = 1; v <= 17; v += 2) {
            edge.due("with none of them " + v, ink.tears(0, 0, v), v == 9 ? 5 : NONE);
        }
        OtherSideInk alike = Edge.laid("p0,1;p0,0;v0,0,18;v1,0,18;");
        edge.due("with all of them", alike.tears(0, 0, 18), 0);
        edge.asked("NONE", Edge::busy, i -> i.tears(0, 0, 0), NONE);
        edge.asked("some", Edge::busy, i -> i.tears(0, 0, 14), 10);
    }

    static void promise17ByKind(Edge edge) {
        for (int v = 0; v <= 18; v++) {
            OtherSideInk ink = Edge.laid("p1,5;p2,5;p3,5;p4,5;p2,4;p0,5;v0,0,2;v1,0,2;v2,0,2;v3,0,2;v5,0,13;");
            edge.due("CLERK, " + v, ink.tears(0, 0, v), v == 13 ? 0 : NONE);
            // from -4 to -7: -4, -4.3, -4.6, -4.9, -5.2, .. -5.8, -6.1, .., -7
            int poet = v == 5 ? 0 : v == 4 ? 4 : v == 3 ? 7 : v == 2 ? 10 : NONE;
            edge.due("POET, " + v, ink.tears(1, 0, v), poet);
            edge.due("MONK, " + v, ink.tears(2, 0, v), v == 9 ? 0 : NONE);
            edge.due("GIRL, " + v, ink.tears(3, 0, v), v == 18 ? 0 : NONE);
        }
    }

    static void promise17BadBeforeNone(Edge edge) {
        edge.asked("person", Edge::busy, ink -> ink.tears(3, 0, 0), BAD);
        edge.asked("view", Edge::busy, ink -> ink.tears(0, 0, 19), BAD);
        edge.asked("theme", Edge::busy, ink -> ink.tears(0, -1, 0), BAD);
    }

    // ---- promise 18

    static void promise18Bounds(Edge edge) {
        edge.taken("person of 3", Edge::busy, 0, 2, (ink, p) -> ink.whom(p, 0, 9));
        edge.taken("person of 6", Edge.laying(Edge.MOST), 0, 5, (ink, p) -> ink.whom(p, 0, 9));
        edge.taken("person of 1", Edge::least, 0, 0, (ink, p) -> ink.whom(p, 0, 9));
        edge.taken("theme", Edge::busy, 0, 4, (ink, t) -> ink.whom(2, t, 9));
        edge.taken("view", Edge::busy, 0, 18, (ink, v) -> ink.whom(0, 0, v));
    }

    private static int firstOf(int[] views, int but, int v) {
        for (int p = 0; p < views.length; p++) {
            if (p != but && views[p] == v) {
                return p;
            }
        }
        return NONE;
    }

    static void promise18OfSeveralTheLowestNotHimself(Edge edge) {
        int[] views = {0, 3, 9, 9, 15, 18};
        OtherSideInk ink = Edge.laid(RISING);
        for (int p = 0; p < 6; p++) {
            for (int v = 0; v <= 18; v++) {
                edge.due("for " + p + ", " + v, ink.whom(p, 4, v), firstOf(views, p, v));
            }
        }
    }

    static void promise18ByKind(Edge edge) {
        int[] views = {0, 3, 9, 9, 15, 18};
        for (int kind = 0; kind <= 4; kind++) {
            OtherSideInk ink = Edge.laid(rising(("p" + kind + ",5;").repeat(6)));
            for (int p = 0; p < 6; p++) {
                int whomever = p == 0 ? 1 : 0;
                for (int v = 0; v <= 18; v++) {
                    int due = kind == 3 ? (v == 9 ? whomever : NONE)
                            : kind == 4 ? (v == 18 ? whomever : NONE)
                            : firstOf(views, p, kind == 2 ? 18 - v : v);
                    edge.due("KIND " + kind + ", " + p + ", " + v, ink.whom(p, 0, v), due);
                }
            }
        }
    }

    static void promise18OneAloneHasNobody(Edge edge) {
        for (int kind = 0; kind <= 4; kind++) {
            for (int v = 0; v <= 18; v++) {
                edge.due("KIND " + kind, Edge.laid("p" + kind + ",0;v0,0,12;").whom(0, 0, v), NONE);
            }
        }
    }

    static void promise18OnlyAsksAndBadBeforeNone(Edge edge) {
        edge.asked("one", Edge::busy, ink -> ink.whom(1, 0, 14), 0);
        edge.asked("the last one", Edge::busy, ink -> ink.whom(0, 0, 11), 2);
        edge.asked("nobody there", Edge::least, ink -> ink.whom(0, 0, 9), NONE);
        edge.asked("NONE", Edge::busy, ink -> ink.whom(0, 0, 0), NONE);
        edge.asked("BAD", Edge::busy, ink -> ink.whom(0, 5, 0), BAD);
    }

    // ---- promise 19

    static void promise19Bounds(Edge edge) {
        edge.taken("of 3, but the other", Edge::busy, 1, 2, (ink, p) -> ink.treaty(p, 0, 0));
        edge.taken("of 3, but the one", Edge::busy, 0, 1, (ink, q) -> ink.treaty(2, q, 0));
        edge.taken("of 6, but the other", Edge.laying(Edge.MOST), 1, 5, (ink, p) -> ink.treaty(p, 0, 0));
        edge.taken("of 6, but the one", Edge.laying(Edge.MOST), 0, 4, (ink, q) -> ink.treaty(5, q, 0));
        edge.taken("of 3, the first ahead", Edge::busy, 1, 2, (ink, q) -> ink.treaty(0, q, 0));
        edge.taken("tears", Edge::busy, 0, 10, (ink, n) -> ink.treaty(0, 1, n));
    }

    static void promise19AlikeIsBad(Edge edge) {
        for (int p = 0; p < 3; p++) {
            int person = p;
            edge.asked("alike", Edge::busy, ink -> ink.treaty(person, person, 5), BAD);
        }
        edge.asked("one alone", Edge::least, ink -> ink.treaty(0, 0, 0), BAD);
        edge.asked("one alone and a second", Edge::least, ink -> ink.treaty(0, 1, 0), BAD);
    }

    static void promise19NoneAndAll(Edge edge) {
        String apart = "p0,0;p0,0;v0,0,18;v0,1,18;v0,2,18;v0,3,18;v0,4,18;";
        edge.asked("none", Edge.laying(apart), ink -> ink.treaty(0, 1, 0), 0);
        edge.asked("none, 10", Edge.laying(apart), ink -> ink.treaty(1, 0, 10), 0);
        edge.asked("half and half, all", Edge.laying(apart), ink -> ink.treaty(1, 0, 5), 31);
        edge.asked("alike in all", Edge.laying("p0,0;p0,1;"), ink -> ink.treaty(0, 1, 3), 31);
    }

    static void promise19EachHavingTheOtherInMind(Edge edge) {
        // whom they have in mind now is a third one, for each of them another VIEW
        OtherSideInk ink = Edge.laid("p0,2;p0,0;p0,1;v0,0,14;v1,0,14;v2,0,0;v0,4,0;v1,4,18;");
        edge.due("they both would write", ink.treaty(0, 1, 0), 15);
        edge.due("asked the other way round", ink.treaty(1, 0, 0), 15);
        edge.due("whom they have stays", ink.person(0, 1), 2);
        // on THEMES 0, 1, 3 2 and -2, 0 and -2, -6 and -2
        edge.asked("asks", Edge::busy, i -> i.treaty(0, 2, 3), 20);
        edge.asked("asks, half and half", Edge::busy, i -> i.treaty(0, 1, 5), 31);
    }

    static void promise19EachThemeByKind(Edge edge) {
        for (int t = 0; t < 5; t++) {
            // a CLERK writes the other's 4, a PLAIN one with ten TEARS his own 4, a MONK 0, a GIRL 9
            OtherSideInk ink = Edge.laid("p1,1;p0,0;p3,3;p4,2;v1," + t + ",13;v0," + t + ",7;");
            edge.due("CLERK and PLAIN, ten", ink.treaty(0, 1, 10), 31);
            edge.due("CLERK and PLAIN, none", ink.treaty(0, 1, 0), 31 - (1 << t));
            edge.due("MONK and GIRL", ink.treaty(2, 3, 0), 0);
            edge.due("PLAIN and MONK", ink.treaty(1, 2, 10), 31 - (1 << t));
        }
    }

    // ---- promise 20

    static void promise20Bounds(Edge edge) {
        edge.taken("paper of 3", Edge::busy, 0, 2, (ink, a) -> ink.round(a, 0, 1));
        edge.taken("paper of 5", WouldEdgeTest::papers, 0, 4, (ink, a) -> ink.round(a, 0, 1));
        edge.taken("paper of 1", WouldEdgeTest::onePaper, 0, 0, (ink, a) -> ink.round(a, 0, 1));
        edge.taken("theme", WouldEdgeTest::papers, 0, 4, (ink, t) -> ink.round(4, t, 1));
        edge.taken("copyings", Edge::busy, 0, 60, (ink, k) -> ink.round(0, 0, k));
    }

    static void promise20EmptyIsNoneAndBadComesFirst(Edge edge) {
        edge.asked("empty, 0", Edge::busy, ink -> ink.round(0, 1, 0), NONE);
        edge.asked("empty, 60", Edge::busy, ink -> ink.round(0, 1, 60), NONE);
        edge.asked("empty, and a GIRL", Edge.laying("p4,0;"), ink -> ink.round(0, 0, 1), NONE);
        edge.asked("BAD though empty", Edge::busy, ink -> ink.round(0, 1, 61), BAD);
        edge.asked("BAD though empty, below", Edge::busy, ink -> ink.round(0, 1, -1), BAD);
        edge.asked("BAD paper though empty", Edge.laying(Edge.THREE), ink -> ink.round(3, 0, 0), BAD);
    }

    /** PAPER 0 says 16 on THEME 0; PERSONS of every KIND draw it to and fro. */
    private static OtherSideInk drawn(int persons) {
        OtherSideInk ink = Edge.laid("p0,0;p1,1;p2,2;p3,0;p4,0;p0,5;".substring(0, 5 * persons) + "a2;");
        ink.think(0, 0, 16);
        ink.set(0, 0, 0, 0);
        int[] views = {0, 18, 4, 9, 9, 2};
        for (int p = 0; p < persons; p++) {
            ink.think(p, 0, views[p]);
        }
        return ink;
    }

    /** COPYING needs another PAPER: by turns there and back it is seen what each of 60 leaves. */
    static void promise20By0ToTheLastThen0Again(Edge edge) {
        for (int persons = 1; persons <= 6; persons++) {
            OtherSideInk ink = drawn(persons);
            OtherSideInk copied = drawn(persons);
            edge.due(persons + " PERSONS, 0", ink.round(0, 0, 0), 16);
            for (int k = 1; k <= 60; k++) {
                int from = (k - 1) % 2;
                copied.copy(from, 1 - from, (k - 1) % persons);
                edge.due(persons + " PERSONS, " + k, ink.round(0, 0, k), copied.line(1 - from, 0));
            }
        }
    }

    static void promise20OnlyAsks(Edge edge) {
        edge.asked("one COPYING", Edge::busy, ink -> ink.round(0, 0, 1), 15);
        edge.asked("none", Edge::busy, ink -> ink.round(0, 0, 0), 16);
        // by turns 11, 12, 11 at last
        edge.asked("59", Edge::busy, ink -> ink.round(0, 0, 59), 12);
        edge.asked("60", Edge::busy, ink -> ink.round(0, 0, 60), 11);
    }

    // ---- promise 21

    static void promise21Bounds(Edge edge) {
        edge.taken("paper of 3", Edge::busy, 0, 2, (ink, a) -> ink.again(a, 0));
        edge.taken("paper of 5", WouldEdgeTest::papers, 0, 4, (ink, a) -> ink.again(a, 1));
        edge.taken("paper of 1", WouldEdgeTest::onePaper, 0, 0, (ink, a) -> ink.again(a, 0));
        edge.taken("what", Edge::busy, 0, 1, (ink, what) -> ink.again(0, what));
    }

    static void promise21AnEmptyPaperIsAsAtFirstBehindOne(Edge edge) {
        edge.asked("behind how many", Edge.laying(Edge.THREE), ink -> ink.again(0, 0), 1);
        edge.asked("as at", Edge.laying(Edge.THREE), ink -> ink.again(0, 1), 0);
    }

    /** One PLAIN one alone goes 1 each round till it rests; a round more, and it is as it was. */
    static void promise21BehindEachNumberOfRounds(Edge edge) {
        for (int far = 0; far <= 18; far++) {
            OtherSideInk ink = Edge.laid("p0,0;v0,2,18;a1;");
            ink.set(0, 0, 2, 0);
            ink.think(0, 2, 18 - far);
            edge.due(far + " rounds till it rests, behind", ink.again(0, 0), far + 1);
            edge.due(far + " rounds till it rests, as at", ink.again(0, 1), far);
        }
    }

    static void promise21TheSlowestLineTells(Edge edge) {
        for (int slow = 0; slow < 5; slow++) {
            OtherSideInk ink = Edge.laid("p0,0;a1;");
            for (int t = 0; t < 5; t++) {
                ink.set(0, 0, t, 0);
                ink.think(0, t, t == slow ? 0 : 9 + t);
            }
            edge.due("behind", ink.again(0, 0), 10);
            edge.due("as at", ink.again(0, 1), 9);
        }
    }

    static void promise21ARoundIsOfAllPersons(Edge edge) {
        // up by a GIRL and down again by a MONK: behind one round as at first
        OtherSideInk ink = Edge.laid("p4,0;p3,0;v0,0,9;a1;");
        ink.set(0, 1, 0, 0);
        edge.due("one COPYING is another", ink.round(0, 0, 1), 10);
        edge.due("behind a round", ink.again(0, 0), 1);
        edge.due("as at first", ink.again(0, 1), 0);
        // six PERSONS: three up and none down, 9 in three rounds
        OtherSideInk six = Edge.laid("p4,0;p4,0;p4,0;p0,3;p3,0;p4,0;v3,0,18;a1;");
        six.set(0, 4, 0, 0);
        edge.due("six, behind", six.again(0, 0), 4);
        edge.due("six, as at", six.again(0, 1), 3);
    }

    static void promise21OnlyAsks(Edge edge) {
        // 16; 15 14 13; 12 13 12; 11 12 11; 11 12 11
        edge.asked("behind", Edge::busy, ink -> ink.again(0, 0), 4);
        edge.asked("as at", Edge::busy, ink -> ink.again(0, 1), 3);
        edge.asked("of another one", Edge::busy, ink -> ink.again(1, 1), 3);
    }

    // ---- promise 22

    static void promise22Bounds(Edge edge) {
        edge.taken("paper of 3", Edge::busy, 0, 2, (ink, a) -> ink.least(a, 0, 0));
        edge.taken("paper of 5", WouldEdgeTest::papers, 0, 4, (ink, a) -> ink.least(a, 0, 0));
        edge.taken("paper of 1", WouldEdgeTest::onePaper, 0, 0, (ink, a) -> ink.least(a, 0, 0));
        edge.taken("person of 3", Edge::busy, 0, 2, (ink, p) -> ink.least(0, p, 0));
        edge.taken("person of 6", WouldEdgeTest::papers, 0, 5, (ink, p) -> ink.least(4, p, 1));
        edge.taken("person of 1", WouldEdgeTest::onePaper, 0, 0, (ink, p) -> ink.least(0, p, 0));
        edge.taken("what", WouldEdgeTest::papers, 0, 1, (ink, what) -> ink.least(4, 5, what));
    }

    static void promise22NoneWhereOneIsEmptyAndBadComesFirst(Edge edge) {
        edge.asked("the last line", WouldEdgeTest::papers, ink -> ink.least(0, 0, 0), NONE);
        edge.asked("all", WouldEdgeTest::papers, ink -> ink.least(1, 0, 1), NONE);
        edge.asked("BAD what though empty", WouldEdgeTest::papers, ink -> ink.least(1, 0, 2), BAD);
        edge.asked("BAD person though empty", WouldEdgeTest::papers, ink -> ink.least(1, 6, 0), BAD);
        for (int empty = 0; empty < 5; empty++) {
            OtherSideInk ink = Edge.laid("p0,0;a2;");
            for (int t = 0; t < 5; t++) {
                ink.set(0, 0, t == empty ? (t + 1) % 5 : t, 0);
                ink.set(1, 0, t, 0);
            }
            edge.due("one is empty, how many", ink.least(0, 0, 0), NONE);
            edge.due("one is empty, which", ink.least(0, 0, 1), NONE);
            edge.due("none is", ink.least(1, 0, 1), 0);
        }
    }

    static void promise22EachSetOfLines(Edge edge) {
        for (int bits = 0; bits < 32; bits++) {
            OtherSideInk ink = Edge.laid("p0,0;a1;");
            for (int t = 0; t < 5; t++) {
                ink.set(0, 0, t, 0);
                ink.think(0, t, (bits >> t & 1) == 0 ? 9 : 10);
            }
            int many = (bits & 1) + (bits >> 1 & 1) + (bits >> 2 & 1) + (bits >> 3 & 1) + (bits >> 4 & 1);
            edge.due("how many of " + bits, ink.least(0, 0, 0), many);
            edge.due("which of " + bits, ink.least(0, 0, 1), bits);
            edge.due("the others are his own", ink.own(0, 0), 31 - bits);
            for (int t = 0; t < 5; t++) {
                if ((bits >> t & 1) != 0) {
                    ink.erase(0, 0, t);
                }
            }
            edge.due("all are, once these are ERASED", ink.own(0, 0), 31);
        }
    }

    static void promise22OnlyAsks(Edge edge) {
        edge.asked("all of them", WouldEdgeTest::papers, ink -> ink.least(4, 1, 0), 5);
        edge.asked("which", WouldEdgeTest::papers, ink -> ink.least(4, 1, 1), 31);
        edge.asked("none of them", WouldEdgeTest::papers, ink -> ink.least(4, 0, 0), 0);
    }
}
