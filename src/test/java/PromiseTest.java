/** One part for each promise, worked out by hand: ordinary numbers, the edges, and wrong numbers. */
public final class PromiseTest {
    private static final int BAD = -1, NO = -2, FULL = -3, NONE = -4;
    private static final Check CHECK = new Check("PromiseTest");

    /** One of each KIND; 0 and 1 have each other in mind, the others 0, 1, 0; VIEWS on THEME 0 are 9, -9, 4, 1, -2. */
    private static final String FIVE = "p0,1;p1,0;p2,0;p3,1;p4,0;v0,0,18;v1,0,0;v2,0,13;v3,0,10;v4,0,7;a2;";
    /** Two PLAIN ones with each other in mind: on THEME 0 they are 5 and -5, on THEME 1 both 3. */
    private static final String PAIR = "p0,1;p0,0;v0,0,14;v1,0,4;v0,1,12;v1,1,12;a3;";

    public static void main(String[] args) {
        promise1New();
        promise2Write();
        promise3Wipe();
        promise4Fault();
        promise5Lay();
        promise6Person();
        promise7View();
        promise8Line();
        promise9Would();
        promise10Set();
        promise11Erase();
        promise12Copy();
        promise13Think();
        promise14Mind();
        promise15Undo();
        promise16Own();
        promise17Tears();
        promise18Whom();
        promise19Treaty();
        promise20Round();
        promise21Again();
        promise22Least();
        promise23Sign();
        promise24Forget();
        promise25Who();
        promise26Views();
        promise27Drops();
        promise28Weeks();
        promise29Keep();
        promise30Back();
        promise31Count();
        CHECK.end();
    }

    private static void due(String call, long got, long want) {
        CHECK.due(call, got, want);
    }

    private static OtherSideInk written(String text) {
        OtherSideInk ink = new OtherSideInk();
        for (int i = 0; i < text.length(); i++) {
            due("write in " + text, ink.write(text.charAt(i)), i + 1);
        }
        return ink;
    }

    private static OtherSideInk laid(String text) {
        OtherSideInk ink = written(text);
        CHECK.holds("lay of " + text, ink.lay() > 0);
        return ink;
    }

    private static void lines(String what, OtherSideInk ink, int a, int... says) {
        for (int t = 0; t < says.length; t++) {
            due(what + ", line(" + a + ", " + t + ")", ink.line(a, t), says[t]);
        }
    }

    private static void promise1New() {
        OtherSideInk ink = new OtherSideInk();
        int[] counts = {6, 4, 0, 0, 0, 0, 0};
        for (int i = 0; i < counts.length; i++) {
            due("1: count(" + i + ")", ink.count(i), counts[i]);
        }
        int[] kinds = {0, 0, 1, 2, 3, 4};
        int[] minds = {1, 0, 0, 3, 1, 0};
        int[][] views = {{14, 6, 18, 9, 9}, {2, 9, 9, 16, 9}, {11, 9, 9, 9, 0}, {18, 9, 3, 9, 9}, {7, 9, 9, 9, 9},
            {9, 4, 9, 9, 9}};
        for (int p = 0; p < 6; p++) {
            due("1: person(" + p + ", 0)", ink.person(p, 0), kinds[p]);
            due("1: person(" + p + ", 1)", ink.person(p, 1), minds[p]);
            for (int t = 0; t < 5; t++) {
                due("1: view(" + p + ", " + t + ")", ink.view(p, t), views[p][t]);
            }
        }
        for (int a = 0; a < 4; a++) {
            lines("1", ink, a, NONE, NONE, NONE, NONE, NONE);
        }
        due("1: fault of no letters", ink.fault(), NONE);
        due("1: nothing to undo", ink.undo(), NO);
        due("1: nothing kept", ink.back(), NO);
    }

    private static void promise2Write() {
        OtherSideInk ink = new OtherSideInk();
        due("2: below the lowest", ink.write(31), BAD);
        due("2: lowest", ink.write(32), 1);
        due("2: highest", ink.write(126), 2);
        due("2: above the highest", ink.write(127), BAD);
        due("2: below zero", ink.write(-1), BAD);
        for (int i = 3; i <= 200; i++) {
            due("2: letter " + i, ink.write('a'), i);
        }
        due("2: one too many", ink.write('a'), FULL);
        due("2: BAD before FULL", ink.write(200), BAD);
        due("2: still 200", ink.count(6), 200);
    }

    private static void promise3Wipe() {
        OtherSideInk ink = new OtherSideInk();
        due("3: empty", ink.wipe(), 0);
        ink.write('x');
        ink.write('y');
        due("3: two", ink.wipe(), 2);
        due("3: again", ink.wipe(), 0);
        due("3: first letter again", ink.write('p'), 1);
        OtherSideInk laid = laid(PAIR);
        laid.set(0, 0, 0, 0);
        laid.wipe();
        due("3: the chancery stays", laid.line(0, 0), 4);
    }

    private static void faultAt(int place, String text) {
        due("4: fault of " + text, written(text).fault(), place);
    }

    private static void promise4Fault() {
        faultAt(NONE, "");
        faultAt(NONE, "p0,0;");
        faultAt(NONE, "a1;a5;p04,05;v00,4,18;a05;");
        faultAt(0, "x");
        faultAt(0, "p");
        faultAt(0, "p0,0");
        faultAt(0, "p0;");
        faultAt(0, "p0,0,0;");
        faultAt(0, "p0,0,0,0;");
        faultAt(0, "p5,0;");
        faultAt(0, "p0,6;");
        faultAt(0, "p000,0;");
        faultAt(0, "p0,000;");
        faultAt(0, "p,0;");
        faultAt(0, "p0,;");
        faultAt(0, "p;");
        faultAt(0, "p 0,0;");
        faultAt(0, "P0,0;");
        faultAt(0, "p0.0;");
        faultAt(0, ";");
        faultAt(5, "p0,0;;");
        faultAt(5, "p0,0; ");
        faultAt(5, "p0,0;q1;");
        faultAt(0, "v0,0,0;p0,0;");
        faultAt(5, "p0,0;v1,0,0;p0,0;");
        faultAt(5, "p0,0;v0,5,0;");
        faultAt(5, "p0,0;v0,0,19;");
        faultAt(NONE, "p0,0;v0,4,18;v0,4,0;");
        faultAt(5, "p0,0;v0,0;");
        faultAt(5, "p0,0;v0,0,0,0;");
        faultAt(5, "p0,0;v0,0,018;");
        faultAt(5, "p0,0;a0;");
        faultAt(5, "p0,0;a6;");
        faultAt(5, "p0,0;a1,1;");
        faultAt(5, "p0,0;a;");
        faultAt(8, "p0,0;a3;x;y;");
        faultAt(NONE, "p0,5;p0,5;p0,5;p0,5;p0,5;p0,5;");
        faultAt(30, "p0,5;p0,5;p0,5;p0,5;p0,5;p0,5;p0,5;");
        OtherSideInk full = written("p0,0;" + "a1;".repeat(65));
        due("4: 200 letters", full.fault(), NONE);
        OtherSideInk cut = written("a1;".repeat(66) + "a1");
        due("4: the last one cut at 200", cut.fault(), 198);
        due("4: the chancery stays", cut.count(0), 6);
    }

    private static void promise5Lay() {
        OtherSideInk none = new OtherSideInk();
        due("5: no letters", none.lay(), NO);
        due("5: papers alone", written("a2;").lay(), NO);
        due("5: a fault", written("p0,0;v1,0,0;").lay(), NO);
        due("5: nobody there to have in mind", written("p0,1;").lay(), NO);
        due("5: nor for the second", written("p0,0;p0,2;").lay(), NO);
        due("5: told later is told", written("p0,1;p0,0;").lay(), 2);
        due("5: himself", written("p0,0;").lay(), 1);
        due("5: six", written("p0,5;p0,5;p0,5;p0,5;p0,5;p0,5;").lay(), 6);

        OtherSideInk ink = laid("p0,0;p3,0;v0,1,4;v0,1,5;a1;v1,4,18;a2;");
        due("5: papers, the last one counts", ink.count(1), 2);
        due("5: views, the last one counts", ink.view(0, 1), 5);
        due("5: view on another", ink.view(1, 4), 18);
        due("5: view without", ink.view(1, 1), 9);
        due("5: papers without", laid("p0,0;").count(1), 3);

        ink.set(0, 0, 0, 0);
        ink.sign(0, 0);
        ink.keep();
        ink.wipe();
        ink.write('p');
        due("5: NO changes nothing", ink.lay(), NO);
        due("5: lines stay", ink.count(2), 1);
        due("5: signed stays", ink.count(3), 1);
        due("5: undone stays", ink.count(4), 1);
        due("5: kept stays", ink.count(5), 1);
        for (char c : "0,0;".toCharArray()) {
            ink.write(c);
        }
        due("5: laid", ink.lay(), 1);
        due("5: lines go", ink.count(2), 0);
        due("5: signed goes", ink.count(3), 0);
        due("5: undone goes", ink.undo(), NO);
        due("5: kept goes", ink.back(), NO);
        due("5: text stays", ink.count(6), 5);
        due("5: laid again", ink.lay(), 1);
        due("5: views are gone", ink.view(0, 1), 9);
    }

    private static void promise6Person() {
        OtherSideInk ink = laid(FIVE);
        for (int p = 0; p < 5; p++) {
            due("6: kind of " + p, ink.person(p, 0), p);
        }
        due("6: mind of 0", ink.person(0, 1), 1);
        due("6: mind of 3", ink.person(3, 1), 1);
        due("6: kind of the sixth", laid("p0,5;p0,5;p0,5;p0,5;p0,5;p4,4;").person(5, 0), 4);
        due("6: mind of the sixth", laid("p0,5;p0,5;p0,5;p0,5;p0,5;p4,4;").person(5, 1), 4);
        due("6: nobody", ink.person(5, 0), BAD);
        due("6: below", ink.person(-1, 0), BAD);
        due("6: what above", ink.person(0, 2), BAD);
        due("6: what below", ink.person(0, -1), BAD);
    }

    private static void promise7View() {
        OtherSideInk ink = laid(FIVE);
        due("7: highest", ink.view(0, 0), 18);
        due("7: lowest", ink.view(1, 0), 0);
        due("7: between", ink.view(4, 0), 7);
        due("7: without", ink.view(4, 4), 9);
        due("7: theme above", ink.view(0, 5), BAD);
        due("7: theme below", ink.view(0, -1), BAD);
        due("7: nobody", ink.view(5, 0), BAD);
        due("7: person below", ink.view(-1, 4), BAD);
    }

    private static void promise8Line() {
        OtherSideInk ink = laid(PAIR);
        due("8: empty", ink.line(0, 0), NONE);
        ink.set(0, 0, 0, 0);
        due("8: written", ink.line(0, 0), 4);
        due("8: another theme", ink.line(0, 1), NONE);
        due("8: another paper", ink.line(1, 0), NONE);
        due("8: last paper, last theme", ink.line(2, 4), NONE);
        due("8: no such paper", ink.line(3, 0), BAD);
        OtherSideInk wide = laid("p4,0;a5;");
        wide.set(4, 0, 4, 0);
        due("8: the last of five papers", wide.line(4, 4), 18);
        due("8: paper below", ink.line(-1, 1), BAD);
        due("8: theme above", ink.line(0, 5), BAD);
        due("8: theme below", ink.line(1, -1), BAD);
    }

    private static void promise9Would() {
        OtherSideInk ink = laid(FIVE);
        due("9: plain, no tears", ink.would(0, 0, 0), 0);
        due("9: plain, (-54+36)/10 cut toward 0", ink.would(0, 0, 4), 8);
        due("9: plain, half and half", ink.would(0, 0, 5), 9);
        due("9: plain, (-36+54)/10 cut toward 0", ink.would(0, 0, 6), 10);
        due("9: plain, all tears", ink.would(0, 0, 10), 18);
        due("9: clerk, no tears", ink.would(1, 0, 0), 18);
        due("9: clerk, all tears", ink.would(1, 0, 10), 18);
        due("9: poet, no tears", ink.would(2, 0, 0), 0);
        due("9: poet, (-63+12)/10 cut toward 0", ink.would(2, 0, 3), 4);
        due("9: poet, all tears", ink.would(2, 0, 10), 13);
        due("9: monk", ink.would(3, 0, 0), 9);
        due("9: monk, all tears", ink.would(3, 0, 10), 9);
        due("9: girl", ink.would(4, 0, 0), 18);
        due("9: girl, all tears", ink.would(4, 0, 10), 18);
        OtherSideInk self = laid("p0,0;p2,1;v0,0,15;v1,0,15;");
        due("9: plain with himself in mind", self.would(0, 0, 3), 15);
        due("9: poet with himself in mind, (-42+18)/10", self.would(1, 0, 3), 7);
        due("9: tears above", ink.would(0, 0, 11), BAD);
        due("9: tears below", ink.would(0, 0, -1), BAD);
        due("9: theme above", ink.would(0, 5, 0), BAD);
        due("9: theme below", ink.would(1, -1, 0), BAD);
        due("9: nobody", ink.would(5, 0, 0), BAD);
        due("9: person below", ink.would(-1, 0, 0), BAD);
        due("9: nothing is written", ink.count(2), 0);
    }

    private static void promise10Set() {
        OtherSideInk ink = laid(FIVE);
        due("10: plain", ink.set(0, 0, 0, 4), 8);
        lines("10", ink, 0, 8, NONE, NONE, NONE, NONE);
        due("10: over it", ink.set(0, 4, 0, 4), 18);
        due("10: line", ink.line(0, 0), 18);
        due("10: last paper, last theme", ink.set(1, 3, 4, 10), 9);
        due("10: a line of 0 is not empty", ink.count(2), 2);
        due("10: paper above", ink.set(2, 0, 0, 0), BAD);
        due("10: paper below", ink.set(-1, 0, 0, 0), BAD);
        due("10: nobody", ink.set(0, 5, 0, 0), BAD);
        due("10: person below", ink.set(0, -1, 0, 0), BAD);
        due("10: theme above", ink.set(0, 0, 5, 0), BAD);
        due("10: theme below", ink.set(1, 0, -1, 0), BAD);
        due("10: tears above", ink.set(0, 0, 0, 11), BAD);
        due("10: tears below", ink.set(0, 0, 0, -1), BAD);
        due("10: BAD is not undone", ink.count(4), 3);
    }

    private static void promise11Erase() {
        OtherSideInk ink = laid(FIVE);
        due("11: empty", ink.erase(0, 0, 0), NO);
        due("11: NO is not undone", ink.count(4), 0);
        due("11: BAD before NO, person", ink.erase(0, 5, 0), BAD);
        due("11: BAD before NO, theme", ink.erase(0, 0, 5), BAD);
        due("11: BAD before NO, paper", ink.erase(2, 0, 0), BAD);
        due("11: paper below", ink.erase(-1, 0, 0), BAD);
        due("11: person below", ink.erase(0, -1, 0), BAD);
        due("11: theme below", ink.erase(1, 0, -1), BAD);
        ink.set(0, 0, 0, 4);
        due("11: by the poet", ink.erase(0, 2, 0), 8);
        due("11: his view", ink.line(0, 0), 13);
        due("11: by the girl", ink.erase(0, 4, 0), 13);
        due("11: her view", ink.line(0, 0), 7);
        due("11: by her again", ink.erase(0, 4, 0), 7);
        due("11: all are changes", ink.count(4), 4);
    }

    private static void promise12Copy() {
        OtherSideInk ink = laid("p0,1;p1,1;p2,1;p3,1;p4,1;v1,0,12;v1,1,18;v1,2,0;v2,3,12;a3;");
        // paper 0: 12 (as the view), 9 by a monk (view 18), 9 by a monk (view 0), the poet's own 12 (view 9), empty
        ink.set(0, 0, 0, 0);
        ink.set(0, 3, 1, 0);
        ink.set(0, 3, 2, 0);
        ink.set(0, 2, 3, 10);
        lines("12: before", ink, 0, 12, 9, 9, 12, NONE);
        ink.set(1, 0, 4, 0);
        due("12: plain", ink.copy(0, 1, 0), 4);
        lines("12: plain, the empty line too", ink, 1, 12, 10, 8, 11, NONE);
        lines("12: the first stays", ink, 0, 12, 9, 9, 12, NONE);
        due("12: clerk", ink.copy(0, 1, 1), 4);
        lines("12: clerk", ink, 1, 12, 11, 7, 10, NONE);
        due("12: clerk again", ink.copy(1, 2, 1), 4);
        lines("12: clerk, what is left", ink, 2, 12, 13, 5, 9, NONE);
        due("12: poet", ink.copy(0, 1, 2), 4);
        lines("12: poet as a plain one", ink, 1, 12, 10, 8, 11, NONE);
        due("12: monk", ink.copy(2, 1, 3), 4);
        lines("12: monk toward 0", ink, 1, 11, 12, 6, 9, NONE);
        due("12: girl", ink.copy(2, 1, 4), 4);
        lines("12: girl up", ink, 1, 13, 14, 6, 10, NONE);
        ink.set(2, 4, 0, 0);
        ink.copy(2, 1, 4);
        due("12: girl at 9", ink.line(1, 0), 18);
        OtherSideInk empty = laid(PAIR);
        empty.set(1, 0, 0, 0);
        due("12: an empty one", empty.copy(0, 1, 0), 0);
        lines("12: empty", empty, 1, NONE, NONE, NONE, NONE, NONE);
        due("12: a change", empty.count(4), 2);
        due("12: alike", empty.copy(0, 0, 0), BAD);
        due("12: first above", empty.copy(3, 0, 0), BAD);
        due("12: second above", empty.copy(0, 3, 0), BAD);
        due("12: first below", empty.copy(-1, 0, 0), BAD);
        due("12: second below", empty.copy(0, -1, 0), BAD);
        due("12: nobody", empty.copy(0, 1, 2), BAD);
        due("12: person below", empty.copy(0, 1, -1), BAD);
        due("12: BAD is no change", empty.count(4), 2);
        due("12: one paper alone", laid("p0,0;a1;").copy(0, 1, 0), BAD);
    }

    private static void promise13Think() {
        OtherSideInk ink = laid(PAIR);
        ink.set(0, 0, 0, 0);
        due("13: highest", ink.think(1, 0, 18), 4);
        due("13: view", ink.view(1, 0), 18);
        due("13: lowest", ink.think(1, 0, 0), 18);
        due("13: writes so", ink.would(0, 0, 0), 0);
        due("13: lines stay", ink.line(0, 0), 4);
        due("13: the same", ink.think(1, 0, 0), 0);
        due("13: all are changes", ink.count(4), 4);
        due("13: view above", ink.think(0, 0, 19), BAD);
        due("13: view below", ink.think(0, 0, -1), BAD);
        due("13: theme above", ink.think(0, 5, 0), BAD);
        due("13: theme below", ink.think(1, -1, 0), BAD);
        due("13: nobody", ink.think(2, 0, 0), BAD);
        due("13: person below", ink.think(-1, 0, 0), BAD);
        due("13: BAD is no change", ink.count(4), 4);
    }

    private static void promise14Mind() {
        OtherSideInk ink = laid(FIVE);
        due("14: another", ink.mind(0, 4), 1);
        due("14: has him", ink.person(0, 1), 4);
        due("14: writes so", ink.would(0, 0, 0), 7);
        due("14: himself", ink.mind(0, 0), 4);
        due("14: writes so", ink.would(0, 0, 0), 18);
        due("14: the same", ink.mind(0, 0), 0);
        due("14: all are changes", ink.count(4), 3);
        due("14: nobody", ink.mind(0, 5), BAD);
        due("14: below", ink.mind(0, -1), BAD);
        due("14: of nobody", ink.mind(5, 0), BAD);
        due("14: of one below", ink.mind(-1, 0), BAD);
        due("14: BAD is no change", ink.count(4), 3);
    }

    private static void promise15Undo() {
        OtherSideInk ink = laid(PAIR);
        due("15: nothing", ink.undo(), NO);
        ink.set(0, 0, 0, 0);
        ink.erase(0, 0, 0);
        ink.copy(0, 1, 1);
        ink.think(1, 0, 18);
        ink.mind(0, 0);
        due("15: mind", ink.undo(), 4);
        due("15: has him again", ink.person(0, 1), 1);
        due("15: think", ink.undo(), 3);
        due("15: view again", ink.view(1, 0), 4);
        due("15: the copy stays", ink.line(1, 0), 14);
        due("15: copy", ink.undo(), 2);
        due("15: empty again", ink.line(1, 0), NONE);
        due("15: the erasing stays", ink.line(0, 0), 14);
        due("15: erase", ink.undo(), 1);
        due("15: what it said", ink.line(0, 0), 4);
        due("15: set", ink.undo(), 0);
        due("15: empty", ink.line(0, 0), NONE);
        due("15: no more", ink.undo(), NO);
        for (int v = 0; v < 12; v++) {
            ink.think(0, 0, v);
        }
        due("15: eight at most", ink.count(4), 8);
        for (int left = 7; left >= 5; left--) {
            due("15: one of eight", ink.undo(), left);
        }
        due("15: three back", ink.view(0, 0), 8);
        ink.think(0, 0, 18);
        due("15: six then", ink.count(4), 6);
        for (int left = 5; left >= 0; left--) {
            due("15: one of six", ink.undo(), left);
        }
        due("15: eight back of twelve", ink.view(0, 0), 3);
        due("15: the ninth can't be", ink.undo(), NO);
        due("15: nothing changes", ink.view(0, 0), 3);
    }

    private static void promise16Own() {
        OtherSideInk ink = laid("p0,0;p0,0;v0,1,3;v0,4,12;v1,4,12;a2;");
        due("16: empty lines are no view of 0", ink.own(0, 0), 0);
        for (int t = 0; t < 5; t++) {
            ink.set(0, 0, t, 0);
        }
        due("16: all", ink.own(0, 0), 31);
        due("16: all but one", ink.own(0, 1), 29);
        due("16: other paper", ink.own(1, 0), 0);
        ink.set(1, 0, 4, 0);
        due("16: the highest bit", ink.own(1, 1), 16);
        due("16: five themes, not the next paper's", ink.own(0, 0), 31);
        OtherSideInk wide = laid("p0,5;p0,5;p0,5;p0,5;p0,5;p0,4;a5;");
        wide.set(1, 0, 0, 0);
        due("16: empty beside one that is not", wide.own(0, 0), 0);
        wide.set(4, 5, 4, 0);
        due("16: the last paper and person", wide.own(4, 5), 16);
        due("16: paper above", ink.own(2, 0), BAD);
        due("16: paper below", ink.own(-1, 0), BAD);
        due("16: nobody", ink.own(0, 2), BAD);
        due("16: person below", ink.own(0, -1), BAD);
    }

    private static void promise17Tears() {
        OtherSideInk ink = laid(PAIR);
        due("17: as the other", ink.tears(0, 0, 4), 0);
        due("17: 0 from 5 on", ink.tears(0, 0, 9), 5);
        due("17: own", ink.tears(0, 0, 14), 10);
        due("17: beyond", ink.tears(0, 0, 15), NONE);
        due("17: both alike, the fewest", ink.tears(0, 1, 12), 0);
        OtherSideInk five = laid(FIVE);
        due("17: clerk", five.tears(1, 0, 18), 0);
        due("17: clerk never his own", five.tears(1, 0, 0), NONE);
        due("17: poet", five.tears(2, 0, 4), 3);
        due("17: monk", five.tears(3, 0, 9), 0);
        due("17: girl", five.tears(4, 0, 17), NONE);
        due("17: view above", ink.tears(0, 0, 19), BAD);
        due("17: view below", ink.tears(0, 0, -1), BAD);
        due("17: theme above", ink.tears(0, 5, 4), BAD);
        due("17: theme below", ink.tears(1, -1, 9), BAD);
        due("17: nobody", ink.tears(2, 0, 4), BAD);
        due("17: person below", ink.tears(-1, 0, 4), BAD);
    }

    private static void promise18Whom() {
        OtherSideInk ink = laid(FIVE);
        due("18: plain", ink.whom(0, 0, 13), 2);
        due("18: not himself", ink.whom(0, 0, 18), NONE);
        due("18: the highest person", ink.whom(0, 0, 7), 4);
        due("18: of several the lowest", ink.whom(2, 4, 9), 0);
        due("18: the lowest but himself", ink.whom(0, 4, 9), 1);
        due("18: clerk", ink.whom(1, 0, 10), 3);
        due("18: poet, the other way", ink.whom(2, 0, 18), 1);
        due("18: poet, nobody", ink.whom(2, 0, 10), NONE);
        due("18: monk, whomever", ink.whom(3, 0, 9), 0);
        due("18: monk, never", ink.whom(3, 0, 10), NONE);
        due("18: girl, whomever", ink.whom(4, 0, 18), 0);
        due("18: one alone", laid("p3,0;").whom(0, 0, 9), NONE);
        due("18: view above", ink.whom(0, 0, 19), BAD);
        due("18: view below", ink.whom(0, 0, -1), BAD);
        due("18: theme above", ink.whom(0, 5, 9), BAD);
        due("18: theme below", ink.whom(1, -1, 9), BAD);
        due("18: nobody", ink.whom(5, 0, 9), BAD);
        due("18: person below", ink.whom(-1, 0, 9), BAD);
    }

    private static void promise19Treaty() {
        OtherSideInk ink = laid("p0,0;p0,1;p2,2;v0,0,14;v1,0,4;v0,4,12;v1,4,12;v2,0,4;");
        due("19: no tears", ink.treaty(0, 1, 0), 30);
        due("19: half and half, 0 both", ink.treaty(0, 1, 5), 31);
        due("19: all tears", ink.treaty(1, 0, 10), 30);
        // plain of 5 and poet of -5: -5 and -5 with none; on THEME 4 3 and 0: 0 and -3
        due("19: plain and poet", ink.treaty(0, 2, 0), 15);
        due("19: the other way round", ink.treaty(2, 0, 0), 15);
        due("19: alike", ink.treaty(1, 1, 0), BAD);
        due("19: first above", ink.treaty(3, 0, 0), BAD);
        due("19: second above", ink.treaty(0, 3, 0), BAD);
        due("19: first below", ink.treaty(-1, 0, 0), BAD);
        due("19: second below", ink.treaty(0, -1, 0), BAD);
        due("19: tears above", ink.treaty(0, 1, 11), BAD);
        due("19: tears below", ink.treaty(0, 1, -1), BAD);
    }

    /** 0 PLAIN toward -9, 1 CLERK toward 9 by 2, 2 MONK toward 0; PAPER 0 says 9 on THEME 0. */
    private static OtherSideInk ring() {
        OtherSideInk ink = laid("p0,1;p1,0;p3,0;v0,0,18;v1,0,0;a2;");
        ink.set(0, 1, 0, 0);
        return ink;
    }

    private static void promise20Round() {
        OtherSideInk ink = ring();
        int[] says = {18, 17, 18, 17, 16, 18, 17, 16, 18, 17};
        for (int k = 0; k < says.length; k++) {
            due("20: behind " + k, ink.round(0, 0, k), says[k]);
        }
        due("20: behind 60", ink.round(0, 0, 60), 17);
        due("20: nothing is changed", ink.line(0, 0), 18);
        due("20: empty", ink.round(0, 1, 5), NONE);
        due("20: empty at first", ink.round(1, 0, 0), NONE);
        due("20: more than 60", ink.round(0, 0, 61), BAD);
        due("20: below", ink.round(0, 0, -1), BAD);
        due("20: BAD before NONE", ink.round(0, 1, 61), BAD);
        due("20: theme above", ink.round(0, 5, 0), BAD);
        due("20: theme below", ink.round(1, -1, 0), BAD);
        due("20: paper above", ink.round(2, 0, 0), BAD);
        due("20: paper below", ink.round(-1, 0, 0), BAD);
    }

    private static void promise21Again() {
        OtherSideInk ink = ring();
        due("21: rounds", ink.again(0, 0), 2);
        due("21: as behind", ink.again(0, 1), 1);
        due("21: empty, rounds", ink.again(1, 0), 1);
        due("21: empty, as at first", ink.again(1, 1), 0);
        due("21: nothing is changed", ink.line(0, 0), 18);
        due("21: nothing to undo more", ink.count(4), 1);
        // one PLAIN one alone, his view -9, a line of 9: 18 rounds till it rests
        OtherSideInk far = laid("p0,0;v0,4,18;a1;");
        far.set(0, 0, 4, 0);
        far.think(0, 4, 0);
        due("21: far, rounds", far.again(0, 0), 19);
        due("21: far, as behind", far.again(0, 1), 18);
        far.set(0, 0, 4, 0);
        due("21: at rest, rounds", far.again(0, 0), 1);
        due("21: at rest, as at first", far.again(0, 1), 0);
        // two LINES that go together: the PAPER is as it was when both are
        OtherSideInk two = laid("p0,0;v0,0,18;v0,4,18;a2;");
        two.set(0, 0, 0, 0);
        two.set(0, 0, 4, 0);
        two.think(0, 0, 12);
        two.think(0, 4, 15);
        due("21: two lines, rounds", two.again(0, 0), 7);
        due("21: two lines, as behind", two.again(0, 1), 6);
        due("21: what above", ink.again(0, 2), BAD);
        due("21: what below", ink.again(0, -1), BAD);
        due("21: paper above", ink.again(2, 0), BAD);
        due("21: paper below", ink.again(-1, 0), BAD);
    }

    private static void promise22Least() {
        OtherSideInk ink = laid("p0,0;p0,1;v0,1,3;v0,4,12;v1,4,12;v1,0,1;a2;");
        due("22: empty", ink.least(0, 0, 0), NONE);
        due("22: empty, which", ink.least(0, 0, 1), NONE);
        for (int t = 0; t < 4; t++) {
            ink.set(0, 0, t, 0);
        }
        due("22: one is empty", ink.least(0, 0, 0), NONE);
        ink.set(0, 0, 4, 0);
        due("22: none has to be", ink.least(0, 0, 0), 0);
        due("22: none, which", ink.least(0, 0, 1), 0);
        due("22: two", ink.least(0, 1, 0), 2);
        due("22: which two", ink.least(0, 1, 1), 3);
        due("22: BAD before NONE", ink.least(1, 0, 2), BAD);
        due("22: what below", ink.least(0, 0, -1), BAD);
        due("22: paper above", ink.least(2, 0, 0), BAD);
        due("22: paper below", ink.least(-1, 0, 0), BAD);
        due("22: nobody", ink.least(0, 2, 0), BAD);
        due("22: person below", ink.least(0, -1, 0), BAD);
    }

    private static void promise23Sign() {
        OtherSideInk ink = laid(PAIR);
        due("23: theme above", ink.sign(5, 0), BAD);
        due("23: theme below", ink.sign(-1, 0), BAD);
        due("23: view above", ink.sign(0, 19), BAD);
        due("23: view below", ink.sign(0, -1), BAD);
        due("23: lowest", ink.sign(0, 0), 1);
        due("23: highest", ink.sign(4, 18), 2);
        due("23: the same is one more", ink.sign(4, 18), 3);
        for (int i = 4; i <= 6; i++) {
            due("23: number " + i, ink.sign(1, i), i);
        }
        due("23: one too many", ink.sign(1, 1), FULL);
        due("23: BAD before FULL", ink.sign(1, 19), BAD);
        due("23: still six", ink.count(3), 6);
        OtherSideInk sixth = laid(PAIR);
        for (int i = 0; i < 5; i++) {
            sixth.sign(1, 12);
        }
        due("23: five alike", sixth.who(0), 22);
        sixth.sign(0, 9);
        due("23: the sixth counts as the others", sixth.who(0), 2);
        due("23: nothing to undo", ink.count(4), 0);
    }

    private static void promise24Forget() {
        OtherSideInk ink = laid(PAIR);
        due("24: nothing", ink.forget(), 0);
        ink.sign(0, 0);
        ink.sign(0, 18);
        due("24: two", ink.forget(), 2);
        due("24: none then", ink.count(3), 0);
        due("24: all threes again", ink.who(0), 22);
        due("24: one again", ink.sign(0, 4), 1);
    }

    private static void promise25Who() {
        OtherSideInk ink = laid(PAIR);
        due("25: nothing signed, 2 by 1 by 11", ink.who(0), 22);
        due("25: the first of all", ink.who(1), 100);
        ink.sign(0, 9);
        // (10-n)(-5)+5n = 10n-50: by 10 0 with 5 tears alone, for 1 the same
        due("25: one way each", ink.who(0), 2);
        due("25: by 0, for 1, 5 tears", ink.who(1), 105);
        ink.sign(1, 12);
        due("25: the other theme too", ink.who(0), 2);
        ink.sign(2, 0);
        due("25: nobody", ink.who(0), 0);
        due("25: no first", ink.who(1), NONE);
        ink.forget();
        ink.sign(0, 14);
        due("25: 0 with ten, 1 with none", ink.who(0), 2);
        due("25: the first by the person", ink.who(1), 110);
        ink.forget();
        ink.think(0, 0, 0);
        ink.sign(0, 0);
        due("25: ten tears for two digits", ink.who(1), 110);
        OtherSideInk five = laid(FIVE);
        five.sign(0, 18);
        // 0 with ten tears for any of four, 1 (clerk) for 0, 2 (poet) for 1 with none, 4 (girl) for any of four
        due("25: by kind", five.who(0), 4 + 11 + 1 + 44);
        due("25: the first for 1, not 0", five.who(1), 110);
        five.forget();
        five.sign(0, 0);
        due("25: for another", five.who(1), 100);
        due("25: nobody in mind counts", five.person(0, 1), 1);
        due("25: one alone", laid("p3,0;").who(0), 0);
        due("25: one alone has no first", laid("p3,0;").who(1), NONE);
        due("25: what above", ink.who(2), BAD);
        due("25: what below", ink.who(-1), BAD);
    }

    private static void promise26Views() {
        OtherSideInk ink = laid(PAIR);
        due("26: nothing signed", ink.views(0, 0, 0), 524287);
        ink.sign(0, 4);
        due("26: no tears, any", ink.views(0, 0, 0), 524287);
        due("26: ten tears, that one", ink.views(0, 0, 10), 1 << 4);
        // (5 x -5 + 5 x V) by 10 is -5 for V of -5 and -6 (-5.5 cut) alone
        due("26: five tears", ink.views(0, 0, 5), 1 << 4 | 1 << 3);
        due("26: his real view stays", ink.view(0, 0), 14);
        due("26: another theme, not with his view", ink.views(0, 1, 10), 0);
        due("26: another theme, any", ink.views(0, 1, 0), 524287);
        ink.sign(1, 12);
        due("26: all that is signed", ink.views(0, 0, 10), 1 << 4);
        ink.sign(2, 18);
        due("26: none", ink.views(0, 0, 10), 0);
        OtherSideInk self = laid("p0,0;p2,1;p1,0;");
        self.sign(0, 13);
        due("26: himself in mind", self.views(0, 0, 3), 1 << 13);
        due("26: poet with himself in mind", self.views(1, 0, 0), 1 << 5);
        due("26: not that of another one", self.views(2, 0, 0), 0);
        due("26: tears above", ink.views(0, 0, 11), BAD);
        due("26: tears below", ink.views(0, 0, -1), BAD);
        due("26: theme above", ink.views(0, 5, 0), BAD);
        due("26: theme below", ink.views(1, -1, 0), BAD);
        due("26: nobody", ink.views(2, 0, 0), BAD);
        due("26: person below", ink.views(-1, 0, 0), BAD);
    }

    private static void fraction(OtherSideInk ink, int p, int t, int v, int x, long above, long below) {
        String call = "27: drops(" + p + ", " + t + ", " + v + ", " + x;
        due(call + ", 0)", ink.drops(p, t, v, x, 0), above);
        due(call + ", 1)", ink.drops(p, t, v, x, 1), below);
    }

    private static void promise27Drops() {
        OtherSideInk ink = laid(PAIR);
        fraction(ink, 0, 0, 4, 0, 1, 1);
        fraction(ink, 0, 0, 14, 10, 1, 1);
        fraction(ink, 0, 0, 14, 0, 0, 1);
        fraction(ink, 0, 0, 9, 5, 63, 256);
        fraction(ink, 0, 0, 4, 5, 1, 1024);
        fraction(ink, 0, 0, 4, 1, 3486784401L, 10000000000L);
        fraction(ink, 0, 0, 14, 1, 1, 10000000000L);
        fraction(ink, 0, 0, 5, 2, 524288, 1953125);
        fraction(ink, 0, 0, 18, 5, 0, 1);
        fraction(ink, 0, 1, 12, 3, 1, 1);
        OtherSideInk five = laid(FIVE);
        fraction(five, 3, 0, 9, 7, 1, 1);
        fraction(five, 4, 0, 9, 7, 0, 1);
        due("27: part above", ink.drops(0, 0, 0, 0, 2), BAD);
        due("27: part below", ink.drops(0, 0, 0, 0, -1), BAD);
        due("27: of ten above", ink.drops(0, 0, 0, 11, 0), BAD);
        due("27: of ten below", ink.drops(0, 0, 0, -1, 0), BAD);
        due("27: view above", ink.drops(0, 0, 19, 0, 0), BAD);
        due("27: view below", ink.drops(0, 0, -1, 0, 0), BAD);
        due("27: theme above", ink.drops(0, 5, 0, 0, 0), BAD);
        due("27: theme below", ink.drops(1, -1, 0, 0, 0), BAD);
        due("27: nobody", ink.drops(2, 0, 0, 0, 0), BAD);
        due("27: person below", ink.drops(-1, 0, 0, 0, 0), BAD);
    }

    private static void promise28Weeks() {
        OtherSideInk ink = laid("p0,1;p4,0;v1,0,4;v1,1,1;a2;");
        // z 0, k 0: x 1, DRAW 0: 0 on THEME 0, no tears, PAPER 0: -5
        due("28: one week, how many", ink.weeks(0, 1, 0), 1);
        due("28: one week, what all say", ink.weeks(0, 1, 1), 495);
        // k 1: x 6152, 37847104 modulo 65521 = 41487, DRAW 20743: 1, THEME 2592 modulo 5 = 2, PAPER 1: the girl's 9
        due("28: two weeks, how many", ink.weeks(0, 2, 0), 2);
        due("28: two weeks, what all say", ink.weeks(0, 2, 1), 504);
        // z 1, k 0: x 7920, 62726400 modulo 65521 = 22803, DRAW 11401: 1, THEME 1425 modulo 5 = 0: 9
        due("28: another z", ink.weeks(1, 1, 1), 509);
        due("28: nothing is changed", ink.count(2), 0);
        due("28: nothing to undo", ink.count(4), 0);
        // from now on: PAPER 0 has a 9 on THEME 4, and on THEME 0 a 9 that is written over
        ink.set(0, 1, 4, 0);
        ink.set(0, 1, 0, 0);
        due("28: from now on, how many", ink.weeks(0, 1, 0), 2);
        due("28: from now on, what all say", ink.weeks(0, 1, 1), 504);
        // z 9999, k 0: x 79182082, times itself (no int holds it) modulo 65521 = 51303, DRAW 25651: 1 on THEME 1
        // with 400 modulo 11 = 4 TEARS: (-54+36)/10 cut toward 0
        due("28: the highest z", laid("p0,1;p0,0;v0,1,0;v1,1,18;a1;").weeks(9999, 1, 1), 499);
        OtherSideInk girls = laid("p4,0;a1;");
        due("28: a girl fills all", girls.weeks(0, 60, 0), 5);
        due("28: girls, what all say", girls.weeks(0, 60, 1), 545);
        due("28: sixty weeks on four papers", new OtherSideInk().weeks(5, 60, 1), 528);
        due("28: weeks above", ink.weeks(0, 61, 0), BAD);
        due("28: weeks below", ink.weeks(0, 0, 0), BAD);
        due("28: z above", ink.weeks(10000, 1, 0), BAD);
        due("28: z below", ink.weeks(-1, 1, 0), BAD);
        due("28: what above", ink.weeks(0, 1, 2), BAD);
        due("28: what below", ink.weeks(0, 1, -1), BAD);
    }

    private static void promise29Keep() {
        OtherSideInk ink = laid(PAIR);
        ink.set(0, 0, 0, 0);
        due("29: one", ink.keep(), 1);
        due("29: it can still be undone", ink.count(4), 1);
        due("29: undone", ink.undo(), 0);
        due("29: two", ink.keep(), 2);
        due("29: no more", ink.keep(), FULL);
        due("29: still two", ink.count(5), 2);
    }

    private static void promise30Back() {
        OtherSideInk ink = laid(PAIR);
        due("30: nothing", ink.back(), NO);
        ink.set(0, 0, 0, 0);
        ink.keep();
        ink.think(0, 0, 0);
        ink.mind(0, 0);
        ink.set(1, 0, 0, 0);
        ink.keep();
        ink.erase(0, 0, 0);
        ink.think(1, 4, 17);
        ink.sign(0, 3);
        ink.write('x');
        due("30: the last one", ink.back(), 1);
        due("30: line as kept", ink.line(0, 0), 4);
        due("30: view as kept", ink.view(1, 4), 9);
        due("30: of the first changes", ink.view(0, 0), 0);
        due("30: mind as kept", ink.person(0, 1), 0);
        due("30: signed stays", ink.count(3), 1);
        due("30: text stays", ink.count(6), PAIR.length() + 1);
        due("30: nothing is undone", ink.undo(), NO);
        due("30: kept no more", ink.count(5), 1);
        ink.set(2, 0, 4, 0);
        due("30: the first one", ink.back(), 0);
        due("30: view", ink.view(0, 0), 14);
        due("30: mind", ink.person(0, 1), 1);
        lines("30", ink, 0, 4, NONE, NONE, NONE, NONE);
        lines("30", ink, 1, NONE, NONE, NONE, NONE, NONE);
        lines("30", ink, 2, NONE, NONE, NONE, NONE, NONE);
        due("30: no more", ink.back(), NO);
        due("30: kept anew", ink.keep(), 1);
    }

    private static void promise31Count() {
        OtherSideInk ink = laid(PAIR);
        ink.set(0, 0, 0, 0);
        ink.set(2, 0, 4, 0);
        ink.set(2, 0, 4, 1);
        ink.sign(0, 0);
        ink.keep();
        ink.keep();
        int[] counts = {2, 3, 2, 1, 3, 2, PAIR.length()};
        for (int i = 0; i < counts.length; i++) {
            due("31: count(" + i + ")", ink.count(i), counts[i]);
        }
        due("31: above", ink.count(7), BAD);
        due("31: below", ink.count(-1), BAD);
    }
}
