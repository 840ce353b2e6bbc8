/** The edges of promises 23 to 26, a test for each sentence of the document, named after its promise. */
public final class SignedEdgeTest {
    private static final int BAD = Edge.BAD, FULL = Edge.FULL, NONE = Edge.NONE;
    private static final int EVERY_VIEW = (1 << 19) - 1;

    public static void main(String[] args) {
        Edge.run(SignedEdgeTest.class);
    }

    private static void busyAndSigned(OtherSideInk ink) {
        Edge.busy(ink);
        for (int i = 1; i < 6; i++) {
            ink.sign(0, 14);
        }
    }

    // ---- promise 23

    static void promise23Bounds(Edge edge) {
        edge.taken("theme", Edge::busy, 0, 4, (ink, t) -> ink.sign(t, 0));
        edge.taken("view", Edge::busy, 0, 18, (ink, v) -> ink.sign(4, v));
    }

    static void promise23SixAtMostThenFull(Edge edge) {
        OtherSideInk ink = Edge.laid(Edge.THREE);
        for (int i = 1; i <= 6; i++) {
            edge.due("number " + i, ink.sign(i % 5, i), i);
        }
        edge.refused("a seventh", SignedEdgeTest::busyAndSigned, i -> i.sign(0, 14), FULL);
        edge.refused("a seventh, another one", SignedEdgeTest::busyAndSigned, i -> i.sign(4, 0), FULL);
        edge.due("forgotten, there is room", Edge.after(i -> {
            busyAndSigned(i);
            i.forget();
        }).sign(0, 14), 1);
    }

    static void promise23BadBeforeFull(Edge edge) {
        edge.refused("theme", SignedEdgeTest::busyAndSigned, ink -> ink.sign(5, 0), BAD);
        edge.refused("theme below", SignedEdgeTest::busyAndSigned, ink -> ink.sign(-1, 0), BAD);
        edge.refused("view", SignedEdgeTest::busyAndSigned, ink -> ink.sign(0, 19), BAD);
        edge.refused("view below", SignedEdgeTest::busyAndSigned, ink -> ink.sign(0, -1), BAD);
    }

    static void promise23SignsAlone(Edge edge) {
        edge.changes("one", Edge.laying(Edge.THREE), ink -> ink.sign(0, 14), 1,
                "count(3)", "who(0)", "who(1)", "views(0, 0, 10)");
    }

    static void promise23EachThemeAndView(Edge edge) {
        for (int t = 0; t < 5; t++) {
            for (int v = 0; v <= 18; v++) {
                OtherSideInk ink = Edge.laid("p0,1;p0,0;");
                ink.sign(t, v);
                edge.due("this theme", ink.views(0, t, 10), 1 << v);
                edge.due("another theme", ink.views(0, (t + 1) % 5, 10), v == 9 ? EVERY_VIEW : 0);
            }
        }
    }

    static void promise23EachOfSixCounts(Edge edge) {
        for (int other = 0; other < 6; other++) {
            OtherSideInk ink = Edge.laid("p0,1;p0,0;v0,0,14;");
            for (int i = 0; i < 6; i++) {
                ink.sign(0, i == other ? 13 : 14);
            }
            edge.due("nobody would", ink.who(0), 0);
            edge.due("no view", ink.views(0, 0, 10), 0);
        }
    }

    // ---- promise 24

    static void promise24AnswersHowManyWere(Edge edge) {
        edge.asked("none", Edge.laying(Edge.THREE), OtherSideInk::forget, 0);
        for (int many = 0; many <= 6; many++) {
            OtherSideInk ink = Edge.laid(Edge.THREE);
            for (int i = 0; i < many; i++) {
                ink.sign(0, 0);
            }
            edge.due(many + " were", ink.forget(), many);
            edge.due("none is", ink.forget(), 0);
        }
    }

    static void promise24ForgetsAllOfThemAlone(Edge edge) {
        edge.changes("one", Edge::busy, OtherSideInk::forget, 1, "count(3)", "who(0)", "who(1)", "views(0, 0, 10)");
        edge.changes("six", SignedEdgeTest::busyAndSigned, OtherSideInk::forget, 6,
                "count(3)", "who(0)", "who(1)", "views(0, 0, 10)");
        OtherSideInk ink = Edge.laid(Edge.THREE);
        ink.sign(0, 0);
        ink.sign(1, 0);
        ink.forget();
        ink.sign(0, 14);
        edge.due("the old ones do not count", ink.views(0, 0, 10), 1 << 14);
    }

    // ---- promise 25

    static void promise25Bounds(Edge edge) {
        edge.taken("what", Edge::busy, 0, 1, OtherSideInk::who);
        edge.taken("what, six", SignedEdgeTest::busyAndSigned, 0, 1, OtherSideInk::who);
    }

    static void promise25AllThreesWhereNothingIsSigned(Edge edge) {
        for (int persons = 1; persons <= 6; persons++) {
            OtherSideInk ink = Edge.laid("p0,0;".repeat(persons));
            edge.due(persons + ", unlike ones", ink.who(0), persons * (persons - 1) * 11);
            edge.due(persons + ", the first", ink.who(1), persons == 1 ? NONE : 100);
        }
    }

    static void promise25NoneWhereNobodyWould(Edge edge) {
        OtherSideInk ink = Edge.laid("p3,1;p4,0;");
        ink.sign(2, 10);
        edge.due("how many", ink.who(0), 0);
        edge.due("the first", ink.who(1), NONE);
        edge.asked("only asks", i -> {
            Edge.busy(i);
            i.sign(0, 0);
        }, i -> i.who(1), NONE);
        // 5 by 0 for 1 (7 .. 5) with 6 to 10 and for 2 with 10, by 1 for 0 with 0 to 4 and for 2 with 6 and 7
        edge.asked("how many, too", Edge::busy, i -> i.who(0), 13);
    }

    static void promise25TheFirstByPersonWhomTears(Edge edge) {
        // 9 less a tenth of 18, and for nobody but 4 so
        OtherSideInk last = Edge.laid("p3,1;p3,0;p3,0;p3,0;p3,0;p0,0;v0,0,18;v1,0,18;v2,0,18;v3,0,18;v4,0,0;v5,0,18;");
        last.sign(0, 16);
        edge.due("5, 4, 9", last.who(0), 1);
        edge.due("5, 4, 9, the first", last.who(1), 5409);
        OtherSideInk ten = Edge.laid("p3,1;p3,0;p3,0;p3,0;p3,0;p0,0;v5,0,18;");
        ten.sign(0, 18);
        edge.due("5 with ten for each of five", ten.who(0), 5);
        edge.due("5, 0, 10 of them", ten.who(1), 5010);
        // 0 with ten for 1, but with none for 2
        OtherSideInk whom = Edge.laid("p0,1;p3,0;p3,0;v0,0,14;v2,0,14;");
        whom.sign(0, 14);
        edge.due("whom ahead of TEARS", whom.who(1), 110);
        // 0 for 2 with ten, 1 for 0 with none
        OtherSideInk person = Edge.laid("p0,1;p0,0;v0,0,14;");
        person.sign(0, 14);
        edge.due("the PERSON ahead of TEARS", person.who(1), 110);
        OtherSideInk second = Edge.laid("p3,1;p1,0;p1,0;v0,0,14;");
        second.sign(0, 14);
        edge.due("1, 0, 0", second.who(1), 1000);
        edge.due("a CLERK with any TEARS", second.who(0), 22);
    }

    /** Each three asked one by one of the chancery itself: has he that one in mind, would he write it? */
    private static void whoAsAsked(Edge edge, int[][] signed) {
        int many = 0;
        int first = NONE;
        for (int p = 0; p < 6; p++) {
            OtherSideInk ink = new OtherSideInk();
            for (int m = 0; m < 6; m++) {
                ink.mind(p, m);
                for (int n = 0; n <= 10 && m != p; n++) {
                    boolean all = true;
                    for (int[] one : signed) {
                        all &= ink.would(p, one[0], n) == one[1];
                    }
                    many += all ? 1 : 0;
                    first = all && first == NONE ? 1000 * p + 100 * m + n : first;
                }
            }
        }
        OtherSideInk ink = new OtherSideInk();
        for (int[] one : signed) {
            ink.sign(one[0], one[1]);
        }
        edge.due("how many", ink.who(0), many);
        edge.due("the first", ink.who(1), first);
    }

    static void promise25AsAskedOneByOne(Edge edge) {
        for (int t = 0; t < 5; t++) {
            for (int v = 0; v <= 18; v++) {
                whoAsAsked(edge, new int[][] {{t, v}});
                whoAsAsked(edge, new int[][] {{t, v}, {4, 9}, {(t + 1) % 5, 18 - v}});
                whoAsAsked(edge, new int[][] {{t, v}, {t, v}, {1, 9}, {3, 9}, {4, 9}});
            }
        }
        whoAsAsked(edge, new int[][] {});
    }

    // ---- promise 26

    static void promise26Bounds(Edge edge) {
        edge.taken("person of 3", Edge::busy, 0, 2, (ink, p) -> ink.views(p, 0, 10));
        edge.taken("person of 6", Edge.laying(Edge.MOST), 0, 5, (ink, p) -> ink.views(p, 0, 10));
        edge.taken("person of 1", Edge::least, 0, 0, (ink, p) -> ink.views(p, 0, 10));
        edge.taken("theme", Edge::busy, 0, 4, (ink, t) -> ink.views(1, t, 3));
        edge.taken("tears", Edge::busy, 0, 10, (ink, n) -> ink.views(0, 0, n));
    }

    static void promise26EveryViewWhereNothingIsSigned(Edge edge) {
        for (int kind = 0; kind <= 4; kind++) {
            for (int n = 0; n <= 10; n++) {
                edge.due("KIND " + kind, Edge.laid("p" + kind + ",0;").views(0, 4, n), EVERY_VIEW);
            }
        }
    }

    static void promise26NoneIsNoBits(Edge edge) {
        edge.asked("none", i -> {
            Edge.busy(i);
            i.sign(0, 13);
        }, i -> i.views(0, 0, 10), 0);
        edge.asked("one", Edge::busy, i -> i.views(0, 0, 10), 1 << 14);
    }

    /** Each VIEW tried one by one in the chancery itself; with himself in mind both are it. */
    private static void viewsAsTried(Edge edge, int kind, int m, int[][] signed, int n) {
        int t = 2;
        OtherSideInk tried = Edge.laid("p" + kind + "," + m + ";p0,0;v0,2,13;v1,2,4;v0,3,12;v1,3,12;");
        int bits = 0;
        for (int v = 0; v <= 18; v++) {
            tried.think(0, t, v);
            boolean all = true;
            for (int[] one : signed) {
                all &= tried.would(0, one[0], n) == one[1];
            }
            bits |= all ? 1 << v : 0;
        }
        OtherSideInk ink = Edge.laid("p" + kind + "," + m + ";p0,0;v0,2,13;v1,2,4;v0,3,12;v1,3,12;");
        for (int[] one : signed) {
            ink.sign(one[0], one[1]);
        }
        edge.due("KIND " + kind + ", in mind " + m + ", TEARS " + n, ink.views(0, t, n), bits);
        edge.due("his VIEW stays", ink.view(0, t), 13);
    }

    static void promise26AsTriedOneByOne(Edge edge) {
        for (int kind = 0; kind <= 4; kind++) {
            for (int m = 0; m <= 1; m++) {
                for (int n = 0; n <= 10; n++) {
                    for (int v = 0; v <= 18; v += 3) {
                        viewsAsTried(edge, kind, m, new int[][] {{2, v}}, n);
                        viewsAsTried(edge, kind, m, new int[][] {{2, v}, {2, 9}}, n);
                        viewsAsTried(edge, kind, m, new int[][] {{3, 12}, {2, v}, {2, v}}, n);
                        viewsAsTried(edge, kind, m, new int[][] {{3, v}}, n);
                    }
                }
            }
        }
    }

    static void promise26HimselfInMindIsThatView(Edge edge) {
        for (int v = 0; v <= 18; v++) {
            OtherSideInk ink = Edge.laid("p0,0;p1,1;p2,2;p0,0;");
            ink.sign(0, v);
            edge.due("PLAIN", ink.views(0, 0, 4), 1 << v);
            edge.due("CLERK", ink.views(1, 0, 10), 1 << v);
            edge.due("POET", ink.views(2, 0, 0), 1 << 18 - v);
            edge.due("another one in mind", ink.views(3, 0, 0), v == 9 ? EVERY_VIEW : 0);
        }
    }
}
