import java.math.BigInteger;

/** The edges of promises 27 to 31, a test for each sentence of the document, named after its promise. */
public final class WeeksEdgeTest {
    private static final int BAD = Edge.BAD, NO = Edge.NO, FULL = Edge.FULL, NONE = Edge.NONE;
    private static final long TEN_TO_TEN = 10000000000L;

    public static void main(String[] args) {
        Edge.run(WeeksEdgeTest.class);
    }

    // ---- promise 27

    static void promise27Bounds(Edge edge) {
        edge.taken("person of 3", Edge::busy, 0, 2, (ink, p) -> ink.drops(p, 0, 9, 5, 0));
        edge.taken("person of 6", Edge.laying(Edge.MOST), 0, 5, (ink, p) -> ink.drops(p, 0, 9, 5, 0));
        edge.taken("person of 1", Edge::least, 0, 0, (ink, p) -> ink.drops(p, 0, 9, 5, 0));
        edge.taken("theme", Edge::busy, 0, 4, (ink, t) -> ink.drops(2, t, 9, 5, 1));
        edge.taken("view", Edge::busy, 0, 18, (ink, v) -> ink.drops(0, 0, v, 5, 0));
        edge.taken("of ten", Edge::busy, 0, 10, (ink, x) -> ink.drops(0, 0, 14, x, 0));
        edge.taken("part", Edge::busy, 0, 1, (ink, part) -> ink.drops(0, 0, 14, 1, part));
    }

    static void promise27ByNoneAndByTenOfTen(Edge edge) {
        OtherSideInk ink = Edge.laid("p0,1;p0,0;v0,0,18;v1,0,0;");
        for (int v = 0; v <= 18; v++) {
            edge.due("0 of ten, above, " + v, ink.drops(0, 0, v, 0, 0), v == 0 ? 1 : 0);
            edge.due("0 of ten, below, " + v, ink.drops(0, 0, v, 0, 1), 1);
            edge.due("10 of ten, above, " + v, ink.drops(0, 0, v, 10, 0), v == 18 ? 1 : 0);
            edge.due("10 of ten, below, " + v, ink.drops(0, 0, v, 10, 1), 1);
        }
    }

    static void promise27NeverAndAlwaysInLowestTerms(Edge edge) {
        OtherSideInk ink = Edge.laid("p3,0;p4,0;p1,0;");
        for (int x = 0; x <= 10; x++) {
            edge.due("never, above", ink.drops(0, 0, 10, x, 0), 0);
            edge.due("never, below", ink.drops(0, 0, 10, x, 1), 1);
            for (int p = 0; p < 3; p++) {
                edge.due("always, above", ink.drops(p, 0, p == 1 ? 18 : 9, x, 0), 1);
                edge.due("always, below", ink.drops(p, 0, p == 1 ? 18 : 9, x, 1), 1);
            }
        }
    }

    static void promise27TheLeastAndTheGreatestNumbers(Edge edge) {
        OtherSideInk ink = Edge.laid("p0,1;p0,0;v0,0,18;v1,0,0;");
        edge.due("all ten by 1", ink.drops(0, 0, 18, 1, 0), 1);
        edge.due("all ten by 1, below", ink.drops(0, 0, 18, 1, 1), TEN_TO_TEN);
        edge.due("none by 1", ink.drops(0, 0, 0, 1, 0), 3486784401L);
        edge.due("none by 1, below", ink.drops(0, 0, 0, 1, 1), TEN_TO_TEN);
        // all but with ten TEARS: 10 - 0.9 at most, cut from 9 on to another one
        OtherSideInk most = Edge.laid("p0,1;p0,0;v0,0,10;v1,0,9;");
        edge.due("all but ten by 1", most.drops(0, 0, 9, 1, 0), TEN_TO_TEN - 1);
        edge.due("all but ten by 1, below", most.drops(0, 0, 9, 1, 1), TEN_TO_TEN);
    }

    static void promise27EveryWayOfTenDrops(Edge edge) {
        for (int p = 0; p < 6; p++) {
            for (int x = 0; x <= 10; x++) {
                OtherSideInk ink = new OtherSideInk();
                BigInteger all = BigInteger.ZERO;
                for (int v = 0; v <= 18; v++) {
                    BigInteger ways = BigInteger.valueOf(waysAsked(p, v, x));
                    BigInteger shared = ways.gcd(BigInteger.valueOf(TEN_TO_TEN));
                    String what = p + ", " + v + ", " + x;
                    edge.due(what + ", above", ink.drops(p, 0, v, x, 0), ways.divide(shared).longValue());
                    edge.due(what + ", below", ink.drops(p, 0, v, x, 1),
                            BigInteger.valueOf(TEN_TO_TEN).divide(shared).longValue());
                    all = all.add(ways);
                }
                edge.due("some VIEW is written", all.longValue(), TEN_TO_TEN);
            }
        }
    }

    /** Every one of the 1024 ways in which ten drops can be TEARS or not. */
    private static long waysAsked(int p, int v, int x) {
        OtherSideInk ink = new OtherSideInk();
        int[] says = new int[11];
        for (int n = 0; n <= 10; n++) {
            says[n] = ink.would(p, 0, n);
        }
        long above = 0;
        for (int drops = 0; drops < 1024; drops++) {
            long way = 1;
            for (int drop = 0; drop < 10; drop++) {
                way *= (drops >> drop & 1) == 1 ? x : 10 - x;
            }
            above += says[Integer.bitCount(drops)] == v ? way : 0;
        }
        return above;
    }

    static void promise27OnlyAsks(Edge edge) {
        edge.asked("above", Edge::busy, ink -> ink.drops(0, 0, 14, 5, 0), 1);
        edge.asked("below", Edge::busy, ink -> ink.drops(0, 0, 14, 5, 1), 1024);
    }

    // ---- promise 28

    static void promise28Bounds(Edge edge) {
        edge.taken("weeks", Edge::busy, 1, 60, (ink, n) -> ink.weeks(7, n, 0));
        edge.taken("what", Edge::busy, 0, 1, (ink, what) -> ink.weeks(7, 60, what));
        for (int z : new int[] {0, 1, 5000, 9998, 9999}) {
            edge.asked("z " + z, Edge.laying("p4,0;a1;"), ink -> ink.weeks(z, 1, 0), 1);
        }
        for (int z : new int[] {Integer.MIN_VALUE, -2, -1, 10000, 10001, 65521, Integer.MAX_VALUE}) {
            edge.asked("z " + z, Edge::busy, ink -> ink.weeks(z, 1, 0), BAD);
        }
    }

    /** The same weeks as WRITINGS of a real chancery. */
    private static void weeksAsWritten(Edge edge, Edge.Steps before, int z) {
        OtherSideInk written = Edge.after(before);
        int persons = written.count(0);
        int papers = written.count(1);
        for (int k = 0; k < 60; k++) {
            BigInteger x = BigInteger.valueOf(7919).multiply(BigInteger.valueOf(z))
                    .add(BigInteger.valueOf(6151).multiply(BigInteger.valueOf(k))).add(BigInteger.ONE);
            int draw = x.multiply(x).mod(BigInteger.valueOf(65521)).divide(BigInteger.TWO).intValue();
            written.set(k % papers, draw % persons, draw / 8 % 5, draw / 64 % 11);
            if (k % 7 == 0 || k == 59) {
                int sum = 500;
                for (int line = 0; line < papers * 5; line++) {
                    int says = written.line(line / 5, line % 5);
                    sum += says == NONE ? 0 : says - 9;
                }
                OtherSideInk ink = Edge.after(before);
                edge.due("z " + z + ", week " + k + ", how many", ink.weeks(z, k + 1, 0), written.count(2));
                edge.due("z " + z + ", week " + k + ", what all say", ink.weeks(z, k + 1, 1), sum);
            }
        }
    }

    static void promise28AsWritten(Edge edge) {
        for (int z : new int[] {0, 1, 2, 3, 77, 1234, 8191, 9998, 9999}) {
            weeksAsWritten(edge, ink -> { }, z);
            weeksAsWritten(edge, Edge::busy, z);
            weeksAsWritten(edge, Edge.laying("p0,0;p2,3;p0,1;p1,0;v0,0,18;v1,1,0;v2,2,18;v3,4,0;a1;"), z);
            weeksAsWritten(edge, Edge.laying("p0,1;p0,0;v0,0,18;v1,1,0;a2;"), z);
            weeksAsWritten(edge, Edge::least, z);
            weeksAsWritten(edge, Edge.laying(Edge.MOST), z);
        }
    }

    private static Edge.Steps allSay(int v) {
        return ink -> {
            Edge.laying("p0,0;a5;").on(ink);
            for (int t = 0; t < 5; t++) {
                ink.think(0, t, v);
                for (int a = 0; a < 5; a++) {
                    ink.set(a, 0, t, 0);
                }
            }
        };
    }

    static void promise28TheLeastAndTheGreatest(Edge edge) {
        for (int v : new int[] {0, 9, 18}) {
            edge.asked("all lines", allSay(v), ink -> ink.weeks(0, 60, 0), 25);
            edge.asked("what all say, " + v, allSay(v), ink -> ink.weeks(9999, 60, 1), 500 + 25 * (v - 9));
        }
        edge.asked("one week fills one line", Edge.laying("p3,0;a5;"), ink -> ink.weeks(0, 1, 0), 1);
        edge.asked("a line of 0 says 0", Edge.laying("p3,0;a5;"), ink -> ink.weeks(0, 1, 1), 500);
    }

    static void promise28OnlyAsksFromNowOn(Edge edge) {
        edge.asked("how many", Edge::busy, ink -> ink.weeks(0, 1, 0), 4);
        OtherSideInk ink = Edge.laid("p4,0;a1;");
        edge.due("a week", ink.weeks(0, 1, 1), 509);
        edge.due("asked again", ink.weeks(0, 1, 1), 509);
        ink.set(0, 0, 4, 0);
        edge.due("from what stands now", ink.weeks(0, 1, 1), 518);
    }

    // ---- promise 29

    static void promise29TwoAtMostThenFull(Edge edge) {
        edge.changes("one", Edge.laying(Edge.THREE), OtherSideInk::keep, 1, "count(5)");
        edge.changes("two", ink -> {
            Edge.laying(Edge.THREE).on(ink);
            ink.set(0, 0, 0, 0);
            ink.keep();
        }, OtherSideInk::keep, 2, "count(5)");
        edge.refused("a third", Edge::busy, OtherSideInk::keep, FULL);
        edge.due("one taken back, there is room", Edge.after(ink -> {
            Edge.busy(ink);
            ink.back();
        }).keep(), 2);
    }

    static void promise29IsNoChangeToUndo(Edge edge) {
        OtherSideInk ink = Edge.laid(Edge.THREE);
        ink.keep();
        edge.due("nothing can be", ink.undo(), NO);
        ink.set(0, 0, 0, 0);
        ink.keep();
        edge.due("the WRITING can be", ink.undo(), 0);
    }

    static void promise29WhatIsKeptStaysAsItWas(Edge edge) {
        OtherSideInk ink = Edge.after(Edge::busy);
        ink.back();
        Portrait kept = new Portrait(ink);
        ink.keep();
        ink.set(0, 1, 0, 3);
        ink.set(2, 2, 3, 7);
        ink.copy(0, 1, 2);
        ink.think(2, 1, 18);
        ink.mind(1, 1);
        ink.erase(0, 2, 0);
        ink.undo();
        ink.back();
        edge.holds("as it was: " + kept.unlike(new Portrait(ink)), kept.unlike(new Portrait(ink)).isEmpty());
    }

    // ---- promise 30

    static void promise30NoWhereNothingIsKept(Edge edge) {
        edge.refused("never", Edge.laying(Edge.THREE), OtherSideInk::back, NO);
        edge.refused("no more", ink -> {
            Edge.busy(ink);
            ink.back();
            ink.back();
            ink.set(0, 0, 0, 0);
        }, OtherSideInk::back, NO);
        edge.refused("laid since", ink -> {
            Edge.busy(ink);
            ink.lay();
            ink.think(0, 0, 3);
        }, OtherSideInk::back, NO);
    }

    static void promise30TheLastOneIsKeptNoMore(Edge edge) {
        OtherSideInk ink = Edge.laid(Edge.LEAST);
        ink.think(0, 0, 1);
        ink.keep();
        ink.think(0, 0, 2);
        ink.keep();
        ink.think(0, 0, 3);
        edge.due("one is left", ink.back(), 1);
        edge.due("the last one", ink.view(0, 0), 2);
        ink.think(0, 0, 4);
        edge.due("none is left", ink.back(), 0);
        edge.due("the one ahead of it", ink.view(0, 0), 1);
        edge.due("no more", ink.back(), NO);
        ink.keep();
        ink.think(0, 0, 5);
        ink.keep();
        ink.back();
        ink.think(0, 0, 6);
        ink.keep();
        edge.due("FULL once more", ink.keep(), FULL);
        ink.think(0, 0, 7);
        ink.back();
        edge.due("KEPT last", ink.view(0, 0), 6);
        ink.back();
        edge.due("KEPT first", ink.view(0, 0), 1);
    }

    static void promise30BehindItNothingIsUndone(Edge edge) {
        OtherSideInk ink = Edge.after(Edge::busy);
        edge.due("eight can be", ink.count(4), 8);
        ink.back();
        edge.due("none can be", ink.count(4), 0);
        edge.due("undo", ink.undo(), NO);
        ink.think(0, 0, 0);
        edge.due("what is changed then can be", ink.undo(), 0);
        edge.due("the view", ink.view(0, 0), 14);
    }

    static void promise30SignedAndTheTextStay(Edge edge) {
        OtherSideInk ink = Edge.laid(Edge.THREE);
        ink.keep();
        ink.sign(0, 14);
        ink.wipe();
        Edge.write(ink, "p3,0;");
        ink.back();
        edge.due("SIGNED since", ink.count(3), 1);
        edge.due("it is that", ink.views(0, 0, 10), 1 << 14);
        edge.due("written since", ink.count(6), 5);
        edge.due("it can be laid", ink.fault(), NONE);
        ink.keep();
        ink.forget();
        ink.wipe();
        ink.back();
        edge.due("forgotten since", ink.count(3), 0);
        edge.due("wiped since", ink.count(6), 0);
    }

    static void promise30AllAsItStood(Edge edge) {
        edge.changes("back", Edge::busy, OtherSideInk::back, 1, "count(2)", "count(4)", "count(5)", "line(1, 0)",
                "line(1, 4)", "line(2, 0)", "person(2, 1)", "view(2, 3)");
        OtherSideInk ink = Edge.after(Edge::busy);
        ink.back();
        edge.due("none is left", ink.back(), 0);
        edge.lines("the first one", ink, 0, 7, NONE, NONE, NONE, NONE);
        edge.due("the view", ink.view(1, 0), 16);
        edge.due("whom", ink.person(0, 1), 1);
        edge.due("nothing else", ink.count(2), 1);
    }

    // ---- promise 31

    static void promise31Bounds(Edge edge) {
        edge.taken("what", Edge::busy, 0, 6, OtherSideInk::count);
    }

    static void promise31PersonsAndPapers(Edge edge) {
        for (int many = 1; many <= 6; many++) {
            edge.due("PERSONS", Edge.laid("p0,0;".repeat(many)).count(0), many);
            if (many < 6) {
                edge.due("PAPERS", Edge.laid("p0,0;a" + many + ";").count(1), many);
            }
        }
    }

    static void promise31LinesThatAreNotEmpty(Edge edge) {
        OtherSideInk ink = Edge.laid("p3,0;a5;");
        edge.due("none", ink.count(2), 0);
        for (int line = 0; line < 25; line++) {
            ink.set(line / 5, 0, line % 5, 0);
            edge.due("lines of 0", ink.count(2), line + 1);
        }
        ink.set(0, 0, 0, 0);
        edge.due("over one", ink.count(2), 25);
        ink.undo();
        ink.undo();
        edge.due("undone", ink.count(2), 24);
    }

    static void promise31SignedUndoneKeptLetters(Edge edge) {
        OtherSideInk ink = new OtherSideInk();
        for (int i = 0; i <= 10; i++) {
            edge.due("SIGNED", ink.count(3), Math.min(i, 6));
            edge.due("UNDONE", ink.count(4), Math.min(i, 8));
            edge.due("KEPT", ink.count(5), Math.min(i, 2));
            edge.due("letters", ink.count(6), i);
            ink.sign(0, 0);
            ink.mind(0, 0);
            ink.keep();
            ink.write('p');
        }
        for (int i = 12; i <= 210; i++) {
            ink.write('p');
            edge.due("letters", ink.count(6), Math.min(i, 200));
        }
    }

    static void promise31OnlyAsks(Edge edge) {
        for (int what = 0; what < 7; what++) {
            int[] counts = {3, 3, 4, 1, 8, 2, 20};
            int asked = what;
            edge.asked("what " + what, Edge::busy, ink -> ink.count(asked), counts[what]);
        }
    }
}
