/** The edges of promises 10 to 15, a test for each sentence of the document, named after its promise. */
public final class PapersEdgeTest {
    private static final int BAD = Edge.BAD, NO = Edge.NO, NONE = Edge.NONE;
    private static final int CLERK = 1, MONK = 3, GIRL = 4;
    /** All PLAIN with themselves in mind, VIEWS 0, 4, 9, 14, 18 on THEME 0. */
    private static final String SELVES = "p0,0;p0,1;p0,2;p0,3;p0,4;v0,0,0;v1,0,4;v2,0,9;v3,0,14;v4,0,18;a5;";

    public static void main(String[] args) {
        Edge.run(PapersEdgeTest.class);
    }

    // ---- promise 10

    static void promise10Bounds(Edge edge) {
        edge.taken("paper of 3", Edge::busy, 0, 2, (ink, a) -> ink.set(a, 0, 0, 0));
        edge.taken("paper of 5", Edge.laying(Edge.MOST), 0, 4, (ink, a) -> ink.set(a, 0, 0, 0));
        edge.taken("paper of 1", Edge::least, 0, 0, (ink, a) -> ink.set(a, 0, 0, 0));
        edge.taken("person of 3", Edge::busy, 0, 2, (ink, p) -> ink.set(0, p, 0, 0));
        edge.taken("person of 6", Edge.laying(Edge.MOST), 0, 5, (ink, p) -> ink.set(0, p, 0, 0));
        edge.taken("person of 1", Edge::least, 0, 0, (ink, p) -> ink.set(0, p, 0, 0));
        edge.taken("theme", Edge::busy, 0, 4, (ink, t) -> ink.set(0, 0, t, 0));
        edge.taken("tears", Edge::busy, 0, 10, (ink, n) -> ink.set(0, 0, 0, n));
        edge.refused("all BAD", Edge::busy, ink -> ink.set(3, 3, 5, 11), BAD);
    }

    static void promise10TheLineAlone(Edge edge) {
        edge.changes("an empty one", Edge.laying(Edge.THREE), ink -> ink.set(2, 0, 4, 10), 9,
                "line(2, 4)", "count(2)", "count(4)");
        edge.changes("one that is not empty", Edge::busy, ink -> ink.set(1, 2, 0, 10), 11, "line(1, 0)");
        for (int a = 0; a < 5; a++) {
            for (int t = 0; t < 5; t++) {
                int paper = a;
                int theme = t;
                edge.changes("each", Edge.laying(Edge.MOST), ink -> ink.set(paper, GIRL, theme, 0), 18,
                        "line(" + a + ", " + t + ")", "count(2)", "count(4)");
            }
        }
    }

    static void promise10SaysWhatHeWouldWrite(Edge edge) {
        for (int kind = 0; kind <= 4; kind++) {
            for (int n = 0; n <= 10; n++) {
                OtherSideInk ink = Edge.laid("p" + kind + ",1;p0,0;v0,1,18;v1,1,3;");
                int would = ink.would(0, 1, n);
                edge.due("KIND " + kind + ", " + n, ink.set(0, 0, 1, n), would);
                edge.due("the line", ink.line(0, 1), would);
            }
        }
    }

    static void promise10WhatIsWrittenIsOfNow(Edge edge) {
        OtherSideInk ink = Edge.laid(Edge.THREE);
        ink.set(0, 0, 0, 0);
        ink.think(1, 0, 18);
        ink.mind(0, 0);
        edge.due("it stays", ink.line(0, 0), 4);
        edge.due("the next one is as he is now", ink.set(0, 0, 0, 0), 14);
    }

    // ---- promise 11

    private static void allWritten(OtherSideInk ink) {
        Edge.laying(Edge.MOST).on(ink);
        for (int a = 0; a < 5; a++) {
            for (int t = 0; t < 5; t++) {
                ink.set(a, 0, t, 10);
            }
        }
        Edge.read(ink, Edge.LEAST);
    }

    private static void oneWritten(OtherSideInk ink) {
        Edge.least(ink);
        ink.set(0, 0, 0, 0);
    }

    static void promise11Bounds(Edge edge) {
        edge.taken("paper of 3", Edge::busy, 0, 2, (ink, a) -> ink.erase(a, 0, 0));
        edge.taken("paper of 5", PapersEdgeTest::allWritten, 0, 4, (ink, a) -> ink.erase(a, 0, 0));
        edge.taken("paper of 1", PapersEdgeTest::oneWritten, 0, 0, (ink, a) -> ink.erase(a, 0, 0));
        edge.taken("person of 3", Edge::busy, 0, 2, (ink, p) -> ink.erase(0, p, 0));
        edge.taken("person of 6", PapersEdgeTest::allWritten, 0, 5, (ink, p) -> ink.erase(0, p, 0));
        edge.taken("person of 1", PapersEdgeTest::oneWritten, 0, 0, (ink, p) -> ink.erase(0, p, 0));
        edge.taken("theme", PapersEdgeTest::allWritten, 0, 4, (ink, t) -> ink.erase(4, 5, t));
    }

    static void promise11NoWhereItIsEmpty(Edge edge) {
        edge.refused("empty beside others", Edge::busy, ink -> ink.erase(0, 0, 1), NO);
        edge.refused("all are empty", Edge::least, ink -> ink.erase(0, 0, 4), NO);
        edge.refused("empty once more", ink -> {
            oneWritten(ink);
            ink.undo();
        }, ink -> ink.erase(0, 0, 0), NO);
    }

    static void promise11BadBeforeNo(Edge edge) {
        edge.refused("paper", Edge.laying(Edge.THREE), ink -> ink.erase(3, 0, 0), BAD);
        edge.refused("person", Edge.laying(Edge.THREE), ink -> ink.erase(0, 3, 0), BAD);
        edge.refused("theme", Edge.laying(Edge.THREE), ink -> ink.erase(0, 0, 5), BAD);
    }

    static void promise11SaysHisView(Edge edge) {
        for (int kind = 0; kind <= 4; kind++) {
            for (int v = 0; v <= 18; v++) {
                OtherSideInk ink = Edge.laid("p" + kind + ",1;p0,1;v0,3," + v + ";v1,3,5;");
                ink.set(0, 1, 3, 0);
                edge.due("what it said", ink.erase(0, 0, 3), 5);
                edge.due("KIND " + kind, ink.line(0, 3), v);
                edge.due("what it said then", ink.erase(0, 1, 3), v);
            }
        }
    }

    static void promise11TheLineAlone(Edge edge) {
        edge.changes("erase", Edge::busy, ink -> ink.erase(0, 1, 0), 16);
        edge.changes("by another one", Edge::busy, ink -> ink.erase(0, 2, 0), 16, "line(0, 0)");
        edge.changes("counted", PapersEdgeTest::oneWritten, ink -> ink.erase(0, 0, 0), 12, "count(4)");
    }

    // ---- promise 12

    static void promise12Bounds(Edge edge) {
        edge.taken("of 3, but the other", Edge::busy, 1, 2, (ink, a) -> ink.copy(a, 0, 0));
        edge.taken("of 3, but the one", Edge::busy, 0, 1, (ink, b) -> ink.copy(2, b, 0));
        edge.taken("of 5, but the other", PapersEdgeTest::allWritten, 1, 4, (ink, a) -> ink.copy(a, 0, 0));
        edge.taken("of 5, but the one", PapersEdgeTest::allWritten, 0, 3, (ink, b) -> ink.copy(4, b, 0));
        edge.taken("person of 3", Edge::busy, 0, 2, (ink, p) -> ink.copy(0, 1, p));
        edge.taken("person of 6", PapersEdgeTest::allWritten, 0, 5, (ink, p) -> ink.copy(0, 4, p));
        edge.taken("person of 1", Edge.laying("p0,0;a2;"), 0, 0, (ink, p) -> ink.copy(1, 0, p));
    }

    static void promise12AlikeIsBad(Edge edge) {
        for (int a = 0; a < 3; a++) {
            int paper = a;
            edge.refused("alike", Edge::busy, ink -> ink.copy(paper, paper, 0), BAD);
        }
        edge.refused("one alone", PapersEdgeTest::oneWritten, ink -> ink.copy(0, 0, 0), BAD);
        edge.refused("one alone to a second", PapersEdgeTest::oneWritten, ink -> ink.copy(0, 1, 0), BAD);
        edge.refused("alike, and none", Edge::busy, ink -> ink.copy(3, 3, 3), BAD);
    }

    static void promise12TheLinesOfTheOtherAlone(Edge edge) {
        edge.changes("over a line", Edge::busy, ink -> ink.copy(0, 2, 0), 1, "line(2, 0)");
        edge.changes("over a line that says so, and an empty one", Edge::busy, ink -> ink.copy(1, 2, 0), 2,
                "line(2, 4)", "count(2)");
        edge.changes("an empty line, too", Edge::busy, ink -> ink.copy(0, 1, 2), 1, "line(1, 4)", "count(2)");
        edge.changes("nothing over nothing", Edge.laying(Edge.THREE), ink -> ink.copy(0, 1, 0), 0, "count(4)");
    }

    static void promise12AnEmptyPaperEmpties(Edge edge) {
        OtherSideInk ink = Edge.laid("p4,0;a2;");
        for (int t = 0; t < 5; t++) {
            ink.set(1, 0, t, 0);
        }
        edge.due("none is left", ink.copy(0, 1, 0), 0);
        edge.lines("none is left", ink, 1, NONE, NONE, NONE, NONE, NONE);
        ink.undo();
        edge.due("how many, the first ones", ink.copy(1, 0, 0), 5);
    }

    private static int carried(int kind, int says, int thought) {
        int goal = kind == MONK ? 9 : kind == GIRL ? 18 : thought;
        int far = Math.abs(goal - says);
        int goes = far == 0 ? 0 : kind == CLERK && far > 1 ? 2 : 1;
        return goal < says ? says - goes : says + goes;
    }

    /** Every KIND, whatever the LINE says, every VIEW of whom he has in mind; his own VIEW is another one. */
    static void promise12WhatEachKindCopies(Edge edge) {
        for (int kind = 0; kind <= 4; kind++) {
            for (int says = 0; says <= 18; says++) {
                OtherSideInk ink = Edge.laid("p" + kind + ",1;p0,0;p0,2;v2,3," + says + ";a2;");
                ink.set(0, 2, 3, 0);
                for (int thought = 0; thought <= 18; thought++) {
                    ink.think(1, 3, thought);
                    ink.think(0, 3, (thought + 7) % 19);
                    edge.due("lines", ink.copy(0, 1, 0), 1);
                    edge.due("KIND " + kind + ", " + says + ", " + thought, ink.line(1, 3),
                            carried(kind, says, thought));
                    edge.due("the first one stays", ink.line(0, 3), says);
                }
            }
        }
    }

    static void promise12EachLineByItsTheme(Edge edge) {
        OtherSideInk ink = Edge.laid("p0,1;p0,1;p0,2;v1,0,0;v1,1,18;v1,2,9;v1,4,3;v2,0,5;v2,1,5;v2,2,5;v2,4,5;a5;");
        for (int t = 0; t < 5; t++) {
            if (t != 3) {
                ink.set(4, 2, t, 0);
            }
        }
        edge.due("four", ink.copy(4, 0, 0), 4);
        edge.lines("copied", ink, 0, 4, 6, 6, NONE, 4);
        edge.lines("the first one", ink, 4, 5, 5, 5, NONE, 5);
    }

    // ---- promise 13

    static void promise13Bounds(Edge edge) {
        edge.taken("person of 3", Edge::busy, 0, 2, (ink, p) -> ink.think(p, 0, 0));
        edge.taken("person of 6", Edge.laying(Edge.MOST), 0, 5, (ink, p) -> ink.think(p, 0, 0));
        edge.taken("person of 1", Edge::least, 0, 0, (ink, p) -> ink.think(p, 0, 0));
        edge.taken("theme", Edge::busy, 0, 4, (ink, t) -> ink.think(0, t, 0));
        edge.taken("view", Edge::busy, 0, 18, (ink, v) -> ink.think(0, 0, v));
    }

    static void promise13AnswersWhatItWas(Edge edge) {
        OtherSideInk ink = Edge.laid(Edge.MOST);
        int was = 0;
        for (int v = 18; v >= 0; v--) {
            edge.due("what it was", ink.think(5, 4, v), was);
            edge.due("what it is", ink.view(5, 4), v);
            was = v;
        }
    }

    static void promise13TheViewAlone(Edge edge) {
        edge.changes("think", Edge.laying(Edge.THREE), ink -> ink.think(2, 4, 18), 9, "view(2, 4)", "count(4)");
        edge.changes("the same", Edge.laying(Edge.THREE), ink -> ink.think(2, 0, 11), 11, "count(4)");
    }

    // ---- promise 14

    static void promise14Bounds(Edge edge) {
        edge.taken("person of 3", Edge::busy, 0, 2, (ink, p) -> ink.mind(p, 0));
        edge.taken("person of 6", Edge.laying(Edge.MOST), 0, 5, (ink, p) -> ink.mind(p, 0));
        edge.taken("person of 1", Edge::least, 0, 0, (ink, p) -> ink.mind(p, 0));
        edge.taken("of 3 in mind", Edge::busy, 0, 2, (ink, m) -> ink.mind(0, m));
        edge.taken("of 6 in mind", Edge.laying(Edge.MOST), 0, 5, (ink, m) -> ink.mind(0, m));
        edge.taken("of 1 in mind", Edge::least, 0, 0, (ink, m) -> ink.mind(0, m));
    }

    static void promise14AnswersWhomHeHadHimselfToo(Edge edge) {
        OtherSideInk ink = Edge.laid(Edge.MOST);
        for (int p = 0; p < 6; p++) {
            int was = 5;
            for (int m = 0; m < 6; m++) {
                edge.due("whom he had", ink.mind(p, m), was);
                edge.due("whom he has", ink.person(p, 1), m);
                was = m;
            }
        }
    }

    static void promise14WhomHeHasAlone(Edge edge) {
        edge.changes("another one", Edge.laying(Edge.THREE), ink -> ink.mind(0, 2), 1, "person(0, 1)", "count(4)");
        edge.changes("himself", Edge.laying(Edge.THREE), ink -> ink.mind(2, 2), 1, "person(2, 1)", "count(4)");
        edge.changes("the same", Edge.laying(Edge.THREE), ink -> ink.mind(2, 1), 1, "count(4)");
    }

    // ---- promise 15

    static void promise15NoWhereThereIsNothing(Edge edge) {
        edge.refused("laid", Edge.laying(Edge.THREE), OtherSideInk::undo, NO);
        edge.refused("all is undone", ink -> {
            Edge.busy(ink);
            for (int i = 0; i < 8; i++) {
                ink.undo();
            }
        }, OtherSideInk::undo, NO);
        edge.refused("behind back", ink -> {
            Edge.busy(ink);
            ink.back();
        }, OtherSideInk::undo, NO);
    }

    private static void undone(Edge edge, String what, Edge.Call call) {
        OtherSideInk ink = Edge.after(PapersEdgeTest::allWritten);
        ink.undo();
        call.on(ink);
        edge.due(what + " is undone", ink.undo(), 7);
        OtherSideInk other = Edge.after(PapersEdgeTest::allWritten);
        other.undo();
        edge.holds(what + ": all as it was", new Portrait(ink).unlike(new Portrait(other)).isEmpty());
    }

    static void promise15EachKindOfChange(Edge edge) {
        undone(edge, "WRITING", ink -> ink.set(4, 5, 4, 3));
        undone(edge, "WRITING over a line", ink -> ink.set(0, 5, 4, 3));
        undone(edge, "ERASING", ink -> ink.erase(0, 5, 0));
        undone(edge, "COPYING", ink -> ink.copy(0, 4, 5));
        undone(edge, "COPYING an empty line", ink -> ink.copy(4, 0, 5));
        undone(edge, "a VIEW", ink -> ink.think(5, 0, 0));
        undone(edge, "whom one has in mind", ink -> ink.mind(0, 3));
    }

    static void promise15TheLast8TheOldestDropsOut(Edge edge) {
        for (int changes = 0; changes <= 18; changes++) {
            OtherSideInk ink = Edge.laid(Edge.THREE);
            for (int v = 1; v <= changes; v++) {
                ink.think(0, 4, v);
            }
            int can = Math.min(changes, 8);
            edge.due(changes + " changes", ink.count(4), can);
            for (int left = can - 1; left >= 0; left--) {
                edge.due("how many more", ink.undo(), left);
            }
            edge.due("and not one more", ink.undo(), NO);
            edge.due("the view", ink.view(0, 4), changes == 0 ? 9 : changes <= 8 ? 9 : changes - 8);
        }
    }

    static void promise15ChangesBehindUndone(Edge edge) {
        for (int undone = 0; undone <= 8; undone++) {
            OtherSideInk ink = Edge.laid(Edge.THREE);
            for (int v = 1; v <= 10; v++) {
                ink.think(0, 4, v);
            }
            for (int i = 0; i < undone; i++) {
                ink.undo();
            }
            ink.think(0, 4, 18);
            ink.mind(0, 2);
            edge.due("how many then", ink.count(4), Math.min(8, 10 - undone));
            ink.undo();
            edge.due("whom", ink.person(0, 1), 1);
            ink.undo();
            edge.due("the view ahead of it", ink.view(0, 4), 10 - undone);
            int left = Math.max(0, Math.min(8, 10 - undone) - 2);
            for (int i = 0; i < left; i++) {
                ink.undo();
            }
            edge.due("the oldest", ink.view(0, 4), undone < 2 ? 10 - undone - left : 2);
            edge.due("no more", ink.undo(), NO);
        }
    }

    static void promise15OnlyTheFiveKinds(Edge edge) {
        OtherSideInk ink = Edge.laid(Edge.THREE);
        ink.set(0, 0, 0, 0);
        ink.sign(0, 4);
        ink.write('x');
        ink.keep();
        edge.due("one can be", ink.count(4), 1);
        edge.due("undone", ink.undo(), 0);
        edge.due("SIGNED stays", ink.count(3), 1);
        edge.due("THE TEXT stays", ink.count(6), Edge.THREE.length() + 1);
        edge.due("KEPT stays", ink.count(5), 1);
        edge.due("the line", ink.line(0, 0), NONE);
        ink.set(0, 0, 0, 0);
        ink.forget();
        ink.wipe();
        edge.due("undone", ink.undo(), 0);
        edge.due("forgotten stays", ink.count(3), 0);
        edge.due("wiped stays", ink.count(6), 0);
        edge.due("undone can't be undone", ink.undo(), NO);
    }

    static void promise15AcrossKept(Edge edge) {
        OtherSideInk ink = Edge.laid(SELVES);
        ink.set(0, 0, 0, 0);
        ink.set(0, 4, 0, 0);
        ink.keep();
        edge.due("one from ahead of it", ink.undo(), 1);
        edge.due("the line", ink.line(0, 0), 0);
        edge.due("the other one", ink.undo(), 0);
        ink.back();
        edge.due("KEPT is as it was", ink.line(0, 0), 18);
    }

    static void promise15WhatIsRefusedIsNoChange(Edge edge) {
        OtherSideInk ink = Edge.laid(SELVES);
        ink.set(0, 1, 0, 0);
        ink.set(5, 0, 0, 0);
        ink.erase(0, 0, 1);
        ink.erase(0, 5, 0);
        ink.copy(0, 0, 0);
        ink.think(0, 0, 19);
        ink.mind(0, 5);
        ink.wipe();
        ink.lay();
        ink.back();
        edge.due("one can be", ink.count(4), 1);
        edge.due("undone", ink.undo(), 0);
        edge.due("empty", ink.line(0, 0), NONE);
    }
}
