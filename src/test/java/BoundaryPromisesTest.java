import java.util.function.ToIntFunction;

/** The boundary cases that the document's promises name, sentence by sentence. */
public final class BoundaryPromisesTest extends Sentences {
    private static final int[] FAR_OFF = {LEAST, LEAST + 1, FULL, UNKNOWN, -65536, -17, -16, 16, 17, 32, 65536, MOST - 1, MOST};

    private static void promise1() {
        sentence("Promise 1", "No SHAPES");
        TwoMasks m = new TwoMasks();
        int[] due = {0, 0, 2, 1, 10, 0, 0, 0, 0, 0, 1, 0, 0, 0, 0, 0, 0, 0, 0, 0, 0};
        for (int what = 0; what < due.length; what++) {
            due("told " + what, m.told(what), due[what]);
        }
        due("ofShape", m.ofShape(0, 0), UNKNOWN);
        due("ofPiece", m.ofPiece(0, 0), UNKNOWN);
        due("drop", m.drop(0), UNKNOWN);
        due("gap", m.gap(0, 1), UNKNOWN);
        due("fix", m.fix(0, 0), UNKNOWN);
        due("at", m.at(0, 0), NONE);
        due("at", m.at(15, 15), NONE);
        due("judge", m.judge(0), 0);
        due("judge", m.judge(1), OUTSIDE);
        due("undo", m.undo(), NOT);
        due("goBack 0", m.goBack(0), NOT);
        due("goBack 1", m.goBack(1), NOT);
        due("keep", m.keep(0), 0);
        due("turn", m.turn(), 0);
        due("a turn of nothing can be undone", m.undo(), 0);
        TwoMasks other = new TwoMasks();
        other.shape(0, 0, 15, 15);
        other.bound(0, 8);
        due("objects share nothing", m.told(0), 0);
        due("objects share nothing", m.told(2), 2);
    }

    private static void promise2() {
        sentence("Promise 2", "A SHAPE: its number");
        TwoMasks m = new TwoMasks();
        due("the first, a corner", m.shape(0, 0, 0, 0), 0);
        due("the second, the last corner", m.shape(15, 15, 15, 15), 1);
        due("a whole row", m.shape(0, 7, 15, 7), 2);
        due("a part of a column", m.shape(3, 8, 3, 15), 3);
        m.drop(0);
        due("after one is dropped", m.shape(0, 0, 0, 0), 3);
        due("the whole field", new TwoMasks().shape(0, 0, 15, 15), 0);
        sentence("Promise 2", "OUTSIDE (x more than x2 or y more than y2, too)");
        refused("x more than x2", BoundaryPromisesTest::rich, r -> r.shape(12, 12, 11, 12), OUTSIDE);
        refused("y more than y2", BoundaryPromisesTest::rich, r -> r.shape(12, 12, 12, 11), OUTSIDE);
        refused("both", BoundaryPromisesTest::rich, r -> r.shape(15, 15, 14, 14), OUTSIDE);
        int[][] beside = {{-1, 12, 3, 12}, {12, -1, 12, 12}, {12, 12, 16, 12}, {12, 12, 12, 16}, {16, 12, 16, 12}, {12, 16, 12, 16},
            {-1, -1, -1, -1}};
        for (int[] b : beside) {
            refused("beside the field", BoundaryPromisesTest::rich, r -> r.shape(b[0], b[1], b[2], b[3]), OUTSIDE);
        }
        for (int v : FAR_OFF) {
            refused("x " + v, BoundaryPromisesTest::rich, r -> r.shape(v, 12, 12, 12), OUTSIDE);
            refused("y " + v, BoundaryPromisesTest::rich, r -> r.shape(12, v, 12, 12), OUTSIDE);
            refused("x2 " + v, BoundaryPromisesTest::rich, r -> r.shape(12, 12, v, 12), OUTSIDE);
            refused("y2 " + v, BoundaryPromisesTest::rich, r -> r.shape(12, 12, 12, v), OUTSIDE);
        }
        sentence("Promise 2", "NOT: one of its PLACES is of another SHAPE");
        refused("its corner", BoundaryPromisesTest::rich, r -> r.shape(9, 3, 12, 12), NOT);
        refused("within another", BoundaryPromisesTest::rich, r -> r.shape(3, 1, 3, 1), NOT);
        refused("around another", BoundaryPromisesTest::rich, r -> r.shape(0, 0, 15, 15), NOT);
        due("corner to corner", rich().shape(10, 4, 12, 12), 3);
        sentence("Promise 2", "FULL: 10 SHAPES, 14 PIECES");
        refused("10 shapes", BoundaryPromisesTest::tenShapes, r -> r.shape(15, 15, 15, 15), FULL);
        refused("14 pieces", BoundaryPromisesTest::fourteenPieces, r -> r.shape(0, 1, 0, 1), FULL);
        refused("both", BoundaryPromisesTest::tenInFourteen, r -> r.shape(0, 15, 0, 15), FULL);
        TwoMasks one = tenShapes();
        one.drop(9);
        due("the tenth", one.shape(15, 15, 15, 15), 9);
        TwoMasks last = fourteenPieces();
        last.heal(4, 4);
        due("the fourteenth piece", last.shape(0, 1, 0, 1), 5);
        due("the fourteenth piece", last.told(1), 14);
    }

    private static void promise3() {
        sentence("Promise 3", "A SHAPE is there no more (those behind have a number less): how many are left");
        TwoMasks m = rich();
        due("the first", m.drop(0), 2);
        int[] second = {7, 1, 9, 3, 9, 0, 0, NONE, NONE};
        int[] third = {1, 5, 9, 5, 9, 1, 1, 3, NONE};
        for (int what = 0; what <= 8; what++) {
            due("the second is the first, " + what, m.ofShape(0, what), second[what]);
            due("the third is the second, " + what, m.ofShape(1, what), third[what]);
        }
        due("its places are free", m.at(1, 1), NONE);
        due("its places are free", m.shape(1, 1, 6, 2), 2);
        due("without the cuts of what lay there", m.ofShape(2, 5), 0);
        due("the last", m.drop(2), 2);
        due("those ahead keep their numbers", m.ofShape(0, 0), 7);
        m.drop(0);
        due("the only one", m.drop(0), 0);
        due("no piece is left", m.told(1), 0);
        due("one that was dropped", m.drop(0), UNKNOWN);
        TwoMasks ten = tenShapes();
        due("the tenth", ten.drop(9), 9);
        due("the tenth is no more", ten.drop(9), UNKNOWN);
        due("the first", ten.drop(0), 8);
        sentence("Promise 3", "UNKNOWN");
        refused("the eleventh", BoundaryPromisesTest::tenShapes, r -> r.drop(10), UNKNOWN);
        refused("below the first", BoundaryPromisesTest::tenShapes, r -> r.drop(-1), UNKNOWN);
    }

    private static void promise4() {
        sentence("Promise 4", "A SHAPE, with its CUTS, lies dx, dy (-15 .. 15) farther: its AREA");
        TwoMasks one = with(new int[] {0, 0, 0, 0});
        due("15 to the right and down", one.move(0, 15, 15), 1);
        due("there", one.at(15, 15), 0);
        due("15 back", one.move(0, -15, -15), 1);
        due("there", one.at(0, 0), 0);
        TwoMasks m = rich();
        due("with its cuts", m.move(0, -1, 9), 12);
        due("first cut", m.ofShape(0, 7), 1);
        due("second cut", m.ofShape(0, 8), 3);
        due("to the edge", m.move(0, 10, 4), 12);
        due("first cut", m.ofShape(0, 7), 11);
        due("second cut", m.ofShape(0, 8), 13);
        due("X2", m.ofShape(0, 2), 15);
        due("Y2", m.ofShape(0, 3), 15);
        TwoMasks edge = with(new int[] {0, 0, 1, 0});
        edge.cut(0, 0);
        edge.move(0, 14, 0);
        due("the last cut there can be", edge.ofShape(0, 7), 14);
        edge.move(0, -14, 0);
        due("the first cut there can be", edge.ofShape(0, 7), 0);
        sentence("Promise 4", "UNKNOWN, OUTSIDE, NOT: it would not lie on THE FIELD, or on a PLACE of another SHAPE");
        for (int v : FAR_OFF) {
            refused("dx " + v, BoundaryPromisesTest::rich, r -> r.move(0, v, 0), OUTSIDE);
            refused("dy " + v, BoundaryPromisesTest::rich, r -> r.move(0, 0, v), OUTSIDE);
        }
        refused("a step too far left", BoundaryPromisesTest::rich, r -> r.move(0, -2, 0), NOT);
        refused("a step too far up", BoundaryPromisesTest::rich, r -> r.move(0, 0, -2), NOT);
        refused("a step too far right", BoundaryPromisesTest::rich, r -> r.move(0, 10, 9), NOT);
        refused("a step too far down", BoundaryPromisesTest::rich, r -> r.move(0, 0, 14), NOT);
        refused("15", BoundaryPromisesTest::rich, r -> r.move(0, 15, 15), NOT);
        refused("-15", BoundaryPromisesTest::rich, r -> r.move(0, -15, -15), NOT);
        refused("on another", BoundaryPromisesTest::rich, r -> r.move(0, 1, 0), NOT);
        refused("beyond all there are", BoundaryPromisesTest::rich, r -> r.move(3, 0, 0), UNKNOWN);
        due("partly on its own places", rich().move(0, -1, 1), 12);
        due("nowhere else", rich().move(0, 0, 0), 12);
        due("over another", with(new int[] {0, 0, 0, 0}, new int[] {1, 0, 14, 15}).move(0, 15, 0), 1);
    }

    private static void promise5() {
        sentence("Promise 5", "CUT at x: how many PIECES all SHAPES have");
        TwoMasks m = with(new int[] {0, 0, 15, 0}, new int[] {0, 5, 15, 5});
        due("at 0", m.cut(0, 0), 3);
        due("at 14", m.cut(0, 14), 4);
        due("of the other", m.cut(1, 7), 5);
        TwoMasks last = fourteenPieces();
        last.heal(4, 4);
        due("the fourteenth", last.cut(4, 14), 14);
        sentence("Promise 5", "OUTSIDE (x 0 .. 14)");
        refused("15", () -> with(new int[] {0, 0, 15, 0}), r -> r.cut(0, 15), OUTSIDE);
        refused("-1", () -> with(new int[] {0, 0, 15, 0}), r -> r.cut(0, -1), OUTSIDE);
        for (int v : FAR_OFF) {
            refused("x " + v, BoundaryPromisesTest::rich, r -> r.cut(1, v), OUTSIDE);
        }
        sentence("Promise 5", "NOT: both sides are not its own, it is CUT there, 2 CUTS");
        refused("its last place", BoundaryPromisesTest::rich, r -> r.cut(1, 9), NOT);
        refused("ahead of its first", BoundaryPromisesTest::rich, r -> r.cut(1, 6), NOT);
        refused("far from it", BoundaryPromisesTest::rich, r -> r.cut(1, 14), NOT);
        refused("far from it", BoundaryPromisesTest::rich, r -> r.cut(1, 0), NOT);
        refused("cut there", BoundaryPromisesTest::rich, r -> r.cut(2, 3), NOT);
        refused("2 cuts", BoundaryPromisesTest::rich, r -> r.cut(0, 5), NOT);
        sentence("Promise 5", "FULL: 14 PIECES");
        refused("14", BoundaryPromisesTest::fourteenPieces, r -> r.cut(4, 9), FULL);
        refused("14 of ten shapes", BoundaryPromisesTest::tenInFourteen, r -> r.cut(9, 7), FULL);
        TwoMasks ten = tenInFourteen();
        ten.heal(0, 7);
        due("ten shapes can be cut", ten.cut(9, 7), 14);
    }

    private static void promise6() {
        sentence("Promise 6", "No CUT at x: how many PIECES all SHAPES have");
        TwoMasks m = rich();
        due("the first", m.heal(0, 2), 5);
        due("the second stays", m.ofShape(0, 7), 4);
        due("the second stays", m.ofShape(0, 8), NONE);
        due("the last", m.heal(0, 4), 4);
        due("no cut", m.ofShape(0, 5), 0);
        due("can be cut again", m.cut(0, 4), 5);
        TwoMasks edges = with(new int[] {0, 0, 15, 0});
        edges.cut(0, 0);
        edges.cut(0, 14);
        due("at 14", edges.heal(0, 14), 2);
        due("at 0", edges.heal(0, 0), 1);
        due("of 14", fourteenPieces().heal(4, 4), 13);
        sentence("Promise 6", "UNKNOWN, OUTSIDE, NOT: there is none");
        for (int v : FAR_OFF) {
            refused("x " + v, BoundaryPromisesTest::rich, r -> r.heal(0, v), OUTSIDE);
        }
        refused("15", BoundaryPromisesTest::rich, r -> r.heal(0, 15), OUTSIDE);
        refused("-1", BoundaryPromisesTest::rich, r -> r.heal(0, -1), OUTSIDE);
        refused("between two cuts", BoundaryPromisesTest::rich, r -> r.heal(0, 3), NOT);
        refused("a cut of another", BoundaryPromisesTest::rich, r -> r.heal(1, 3), NOT);
        refused("0", BoundaryPromisesTest::rich, r -> r.heal(0, 0), NOT);
        refused("14", BoundaryPromisesTest::rich, r -> r.heal(0, 14), NOT);
        refused("one that there is not", BoundaryPromisesTest::rich, r -> r.heal(3, 3), UNKNOWN);
        due("twice", healedOnce().heal(0, 2), NOT);
    }

    private static TwoMasks healedOnce() {
        TwoMasks m = rich();
        m.heal(0, 2);
        return m;
    }

    private static void promise7() {
        sentence("Promise 7", "what = 0 D, 1 STITCH, 2 CLASH becomes v: what it was");
        TwoMasks m = new TwoMasks();
        due("D", m.bound(0, 1), 2);
        due("D", m.bound(0, 8), 1);
        due("STITCH", m.bound(1, 0), 1);
        due("STITCH", m.bound(1, 9), 0);
        due("CLASH", m.bound(2, 0), 10);
        due("CLASH", m.bound(2, 99), 0);
        toldAre("each by itself", m, new int[][] {{2, 8}, {3, 9}, {4, 99}});
        due("as it is", m.bound(2, 99), 99);
        sentence("Promise 7", "OUTSIDE");
        for (int what : new int[] {-1, 3, 4, LEAST, MOST}) {
            refused("what " + what, BoundaryPromisesTest::rich, r -> r.bound(what, 1), OUTSIDE);
        }
        int[][] beside = {{0, 0}, {0, 9}, {0, -1}, {1, -1}, {1, 10}, {2, -1}, {2, 100}};
        for (int[] b : beside) {
            refused("bound " + b[0] + " to " + b[1], BoundaryPromisesTest::rich, r -> r.bound(b[0], b[1]), OUTSIDE);
        }
    }

    private static void promise8() {
        sentence("Promise 8", "A PIECE is FIXED on a MASK (NONE: no more): COST of BEST");
        TwoMasks m = chain();
        due("on 1", m.fix(0, 1), 0);
        due("on 1, dear", m.fix(1, 1), 10);
        due("dearer", m.fix(2, 1), 20);
        due("on the other", m.fix(1, 0), 0);
        due("no more", m.fix(1, NONE), 0);
        toldAre("two are fixed", m, new int[][] {{18, 5}, {19, 5}, {10, 1}});
        TwoMasks full = fourteenPieces();
        due("piece 13", full.fix(13, 1), 0);
        due("piece 13", full.ofPiece(13, 5), 1);
        due("its neighbour", full.fix(12, 0), 1);
        due("its neighbour", full.ofPiece(12, 5), 0);
        due("the others", full.ofPiece(11, 5), NONE);
        sentence("Promise 8", "UNKNOWN, OUTSIDE (the MASK), NOT: it is so");
        for (int mask : new int[] {2, -2, UNKNOWN, LEAST, MOST}) {
            refused("mask " + mask, BoundaryPromisesTest::rich, r -> r.fix(0, mask), OUTSIDE);
            refused("mask " + mask + " of a fixed one", BoundaryPromisesTest::rich, r -> r.fix(1, mask), OUTSIDE);
        }
        refused("fixed on 1", BoundaryPromisesTest::rich, r -> r.fix(1, 1), NOT);
        refused("fixed on 0", BoundaryPromisesTest::rich, r -> r.fix(4, 0), NOT);
        refused("not fixed", BoundaryPromisesTest::rich, r -> r.fix(0, NONE), NOT);
        refused("piece 14 of 14", BoundaryPromisesTest::fourteenPieces, r -> r.fix(14, 0), UNKNOWN);
    }

    private static void promise9() {
        sentence("Promise 9", "All lies the other way round (X becomes 15 less X; CUTS likewise, PIECES from the left again): COST of BEST");
        TwoMasks m = with(new int[] {0, 2, 9, 3}, new int[] {15, 15, 15, 15});
        m.cut(0, 0);
        m.cut(0, 3);
        due("turn", m.turn(), 0);
        int[] due = {6, 2, 15, 3, 20, 2, 0, 11, 14};
        for (int what = 0; what < due.length; what++) {
            due("of the first, " + what, m.ofShape(0, what), due[what]);
        }
        due("the other, at the edge", m.ofShape(1, 0), 0);
        due("the other, at the edge", m.ofShape(1, 2), 0);
        due("the first piece", m.ofPiece(0, 3), 12);
        due("the last piece", m.ofPiece(2, 3), 2);
        due("back again", m.turn(), 0);
        due("as it was", m.ofShape(0, 7), 0);
        due("as it was", m.ofShape(0, 8), 3);
        TwoMasks t = triangle();
        t.fix(0, 0);
        t.fix(1, 0);
        t.fix(2, 0);
        due("what was fixed costs no more", t.turn(), 10);
        TwoMasks whole = with(new int[] {0, 0, 15, 15});
        whole.cut(0, 14);
        due("the whole field", whole.turn(), 0);
        due("the whole field's cut", whole.ofShape(0, 7), 0);
        TwoMasks twice = fourteenPieces();
        twice.turn();
        due("14 pieces", twice.told(1), 14);
        due("the last has one cut", twice.ofShape(4, 7), 10);
        TwoMasks ten = tenInFourteen();
        due("ten rows in 14 pieces, in turn on both masks", ten.turn(), 0);
        due("the tenth", ten.ofShape(9, 2), 15);
        due("no shape", new TwoMasks().turn(), 0);
    }

    private static void promise10() {
        sentence("Promise 10", "n times (1 .. 20) BY LOTS of a SEED (1 .. 999999): how many SHAPES");
        due("once, the first seed", new TwoMasks().drift(1, 1), 1);
        due("once, the last seed", new TwoMasks().drift(1, 999999), 1);
        due("20 times", new TwoMasks().drift(20, 7), 10);
        due("those that are there count", with(new int[] {0, 0, 0, 0}).drift(1, 1), 2);
        sentence("Promise 10", "OUTSIDE");
        for (int n : new int[] {0, 21, -1, LEAST, MOST}) {
            refused("n " + n, BoundaryPromisesTest::rich, r -> r.drift(n, 1), OUTSIDE);
        }
        for (int seed : new int[] {0, 1000000, -1, LEAST, MOST}) {
            refused("seed " + seed, BoundaryPromisesTest::rich, r -> r.drift(1, seed), OUTSIDE);
        }
        refused("full, and outside", BoundaryPromisesTest::tenShapes, r -> r.drift(21, 1), OUTSIDE);
        sentence("Promise 10", "(It stops as there are 10 SHAPES, 14 PIECES.)");
        TwoMasks nine = tenShapes();
        nine.drop(9);
        due("the tenth", nine.drift(20, 5), 10);
        due("ten, and no more", nine.drift(20, 6), 10);
        due("not refused, so it can be undone", nine.told(20), 8);
        TwoMasks many = fourteenPieces();
        many.heal(4, 4);
        int before = many.told(0);
        due("the fourteenth piece", many.drift(20, 1), before + 1);
        due("14 pieces", many.told(1), 14);
        due("14, and no more", many.drift(20, 3), before + 1);
        due("14, and no more", many.told(1), 14);
    }

    private static void promise11() {
        sentence("Promise 11", "The latest is undone: how many more can be");
        TwoMasks m = with(new int[] {0, 0, 3, 0}, new int[] {0, 5, 3, 5});
        due("one more", m.undo(), 1);
        due("the first is there", m.told(0), 1);
        due("no more", m.undo(), 0);
        due("none is there", m.told(0), 0);
        m.shape(9, 9, 9, 9);
        due("what comes later can be undone", m.told(20), 1);
        sentence("Promise 11", "NOT: none");
        refused("a new one", TwoMasks::new, TwoMasks::undo, NOT);
        refused("all is undone", BoundaryPromisesTest::allUndone, TwoMasks::undo, NOT);
        refused("what was refused can't be undone", BoundaryPromisesTest::onlyRefused, TwoMasks::undo, NOT);
        refused("what was asked can't be undone", BoundaryPromisesTest::onlyAsked, TwoMasks::undo, NOT);
    }

    private static TwoMasks allUndone() {
        TwoMasks m = rich();
        for (int i = 0; i < 8; i++) {
            m.undo();
        }
        return m;
    }

    private static TwoMasks onlyRefused() {
        TwoMasks m = new TwoMasks();
        m.shape(3, 0, 2, 0);
        m.drop(0);
        m.move(0, 0, 0);
        m.cut(0, 0);
        m.heal(0, 0);
        m.bound(0, 0);
        m.fix(0, 0);
        m.drift(0, 0);
        return m;
    }

    private static TwoMasks onlyAsked() {
        TwoMasks m = rich();
        m.keep(1);
        m.told(5);
        m.judge(3);
        m.wouldCut(1, 7);
        m.wouldMove(2, 0, 5);
        m.pair(0, 1, false);
        m.gap(0, 1);
        m.at(1, 1);
        return m;
    }

    private static void promise12() {
        sentence("Promise 12", "OUTSIDE");
        for (int what : new int[] {-1, 21, 22, LEAST, MOST}) {
            refused("told " + what, BoundaryPromisesTest::rich, r -> r.told(what), OUTSIDE);
        }
        sentence("Promise 12", "0 SHAPES, 1 PIECES, 2 D, 3 STITCH, 4 CLASH, 5 COST of BEST, 6 STITCHES in it (how many), 7 CLASHES");
        TwoMasks ring = ringOfFive();
        ring.bound(1, 9);
        toldAre("a clash", ring, new int[][] {{0, 5}, {1, 5}, {2, 2}, {3, 9}, {4, 10}, {5, 10}, {6, 0}, {7, 1}});
        ring.cut(0, 2);
        toldAre("a stitch is less", ring, new int[][] {{1, 6}, {5, 9}, {6, 1}, {7, 0}, {10, 2}});
        ring.bound(2, 9);
        toldAre("as dear as a stitch", ring, new int[][] {{5, 9}, {10, 12}});
        ring.bound(2, 8);
        toldAre("a clash is less", ring, new int[][] {{5, 8}, {6, 0}, {7, 1}, {10, 10}});
        ring.bound(2, 0);
        toldAre("clashes cost nothing, but are counted", ring, new int[][] {{5, 0}, {6, 0}});
        due("clashes are counted", ring.told(7) > 0 ? 1 : 0, 1);
        sentence("Promise 12", "8 AREA of MASK 0, 9 of MASK 1");
        toldAre("one shape", with(new int[] {0, 0, 15, 15}), new int[][] {{8, 256}, {9, 0}});
        sentence("Promise 12", "20 how many can be undone");
        due("eight at most", tenShapes().told(20), 8);
        due("none of one that was kept", onlyAsked().told(20), 0);
        sentence("Promise 12", "18 PIECES that are FIXED (a SET), 19 BEST: PIECES on MASK 1 (a SET)");
        TwoMasks full = fourteenPieces();
        for (int p = 0; p < 14; p++) {
            full.fix(p, 1);
        }
        toldAre("all", full, new int[][] {{18, 16383}, {19, 16383}, {8, 0}, {9, 80}});
        full.fix(0, 0);
        toldAre("on 0 is fixed, too", full, new int[][] {{18, 16383}, {19, 16382}, {5, 1}});
    }

    private static void promise13() {
        sentence("Promise 13", "7, 8 the place of its first, second CUT (NONE)");
        TwoMasks m = with(new int[] {0, 3, 15, 5});
        due("no first", m.ofShape(0, 7), NONE);
        due("no second", m.ofShape(0, 8), NONE);
        m.cut(0, 14);
        due("the first", m.ofShape(0, 7), 14);
        due("no second", m.ofShape(0, 8), NONE);
        m.cut(0, 0);
        due("from the left", m.ofShape(0, 7), 0);
        due("from the left", m.ofShape(0, 8), 14);
        sentence("Promise 13", "6 its first PIECE");
        due("the last of five in 14", fourteenPieces().ofShape(4, 6), 12);
        due("the tenth", tenShapes().ofShape(9, 6), 9);
        sentence("Promise 13", "UNKNOWN, OUTSIDE");
        for (int what : new int[] {-1, 9, LEAST, MOST}) {
            refused("what " + what, BoundaryPromisesTest::rich, r -> r.ofShape(0, what), OUTSIDE);
        }
        refused("the tenth of ten and one", BoundaryPromisesTest::tenShapes, r -> r.ofShape(10, 0), UNKNOWN);
    }

    private static void promise14() {
        sentence("Promise 14", "Of a PIECE: what = 0 its SHAPE, 1 X, 2 X2, 3 AREA");
        int[][] ofRich = {{0, 1, 2, 4}, {0, 3, 4, 4}, {0, 5, 6, 4}, {1, 7, 9, 9}, {2, 1, 3, 3}, {2, 4, 9, 6}};
        for (int p = 0; p < 6; p++) {
            for (int what = 0; what < 4; what++) {
                due("of " + p + ", " + what, rich().ofPiece(p, what), ofRich[p][what]);
            }
        }
        due("the last of 14", fourteenPieces().ofPiece(13, 0), 4);
        due("the last of 14", fourteenPieces().ofPiece(13, 2), 15);
        sentence("Promise 14", "4 its MASK in BEST, 5 FIXED (NONE)");
        TwoMasks m = chain();
        due("on 0", m.ofPiece(0, 4), 0);
        due("on 1", m.ofPiece(1, 4), 1);
        due("not fixed", m.ofPiece(1, 5), NONE);
        m.fix(1, 0);
        due("fixed on 0", m.ofPiece(1, 5), 0);
        due("on 0", m.ofPiece(1, 4), 0);
        due("on 1 then", m.ofPiece(0, 4), 1);
        sentence("Promise 14", "6 CLOSE ones (a SET), 7 those of its PART (a SET)");
        due("close to none", with(new int[] {0, 0, 0, 0}).ofPiece(0, 6), 0);
        due("its part is itself", with(new int[] {0, 0, 0, 0}).ofPiece(0, 7), 1);
        due("close to both", m.ofPiece(1, 6), 5);
        due("one part", m.ofPiece(0, 7), 7);
        TwoMasks all = tenInFourteen();
        all.bound(0, 8);
        due("the last is close to those of seven rows", all.ofPiece(13, 6), 0b01_1111_1111_0000);
        due("the whole part", all.ofPiece(13, 7), 16383);
        sentence("Promise 14", "UNKNOWN, OUTSIDE");
        for (int what : new int[] {-1, 8, LEAST, MOST}) {
            refused("what " + what, BoundaryPromisesTest::rich, r -> r.ofPiece(0, what), OUTSIDE);
        }
        refused("piece 14 of 14", BoundaryPromisesTest::fourteenPieces, r -> r.ofPiece(14, 0), UNKNOWN);
    }

    private static void promise15() {
        sentence("Promise 15", "GAP. UNKNOWN");
        asked("of pieces of one shape", BoundaryPromisesTest::rich, r -> r.gap(0, 2), 9);
        asked("of others", BoundaryPromisesTest::rich, r -> r.gap(5, 2), 9);
        refused("one twice", BoundaryPromisesTest::rich, r -> r.gap(5, 5), UNKNOWN);
        refused("one there is not", BoundaryPromisesTest::rich, r -> r.gap(5, 6), UNKNOWN);
        refused("one there is not, ahead", BoundaryPromisesTest::rich, r -> r.gap(6, 5), UNKNOWN);
        due("the first and the last of 14", fourteenPieces().gap(0, 13), 145);
        due("of 15", fourteenPieces().gap(0, 14), UNKNOWN);
    }

    private static void promise16() {
        sentence("Promise 16", "The PIECE that lies at a PLACE; NONE");
        TwoMasks m = rich();
        int[][] places = {{1, 1, 0}, {2, 2, 0}, {3, 1, 1}, {4, 2, 1}, {5, 1, 2}, {6, 2, 2}, {7, 3, 3}, {6, 3, NONE}, {0, 1, NONE}, {1, 0, NONE},
            {9, 3, 3}, {10, 3, NONE}, {9, 4, NONE}, {3, 5, 4}, {4, 5, 5}, {0, 0, NONE}, {15, 15, NONE}};
        for (int[] p : places) {
            due("at " + p[0] + ", " + p[1], m.at(p[0], p[1]), p[2]);
        }
        sentence("Promise 16", "OUTSIDE");
        for (int v : FAR_OFF) {
            refused("x " + v, BoundaryPromisesTest::rich, r -> r.at(v, 1), OUTSIDE);
            refused("y " + v, BoundaryPromisesTest::rich, r -> r.at(1, v), OUTSIDE);
        }
        refused("-1", BoundaryPromisesTest::rich, r -> r.at(-1, 0), OUTSIDE);
        refused("-1", BoundaryPromisesTest::rich, r -> r.at(0, -1), OUTSIDE);
    }

    private static void promise17() {
        sentence("Promise 17", "OUTSIDE: a PIECE that there is not");
        for (int masks : new int[] {64, 65, 128, 1 << 14, 1 << 30, -1, -2, -64, LEAST, MOST}) {
            refused("masks " + masks, BoundaryPromisesTest::rich, r -> r.judge(masks), OUTSIDE);
        }
        refused("piece 14 of 14", BoundaryPromisesTest::fourteenPieces, r -> r.judge(1 << 14), OUTSIDE);
        due("none of none", new TwoMasks().judge(0), 0);
        due("one of none", new TwoMasks().judge(1), OUTSIDE);
        due("all of 14", fourteenPieces().judge(16383), 0);
        due("the last of 14", fourteenPieces().judge(1 << 13), 1);
        sentence("Section 3", "JUDGED: masks told by hand, a SET of PIECES on MASK 1: their COST, whatever is FIXED");
        TwoMasks m = chain();
        m.fix(0, 1);
        m.fix(1, 1);
        due("against what is fixed", m.judge(2), 0);
        due("against what is fixed", m.judge(0), 20);
        asked("judge", BoundaryPromisesTest::rich, r -> r.judge(0b000010), 2 * 4 + 2 * 50);
    }

    private static void promise18() {
        sentence("Promise 18", "WOULD, were a SHAPE CUT at x; NONE: it could not be");
        asked("a cut that helps", BoundaryPromisesTest::ringOfFive, r -> r.wouldCut(0, 2), 1);
        asked("with the cut that it has", BoundaryPromisesTest::cutRing, r -> r.wouldCut(0, 0), 1);
        asked("a cut that does not", BoundaryPromisesTest::ringOfFive, r -> r.wouldCut(0, 0), 10);
        asked("its last place", BoundaryPromisesTest::rich, r -> r.wouldCut(1, 9), NONE);
        asked("ahead of its first", BoundaryPromisesTest::rich, r -> r.wouldCut(1, 6), NONE);
        asked("cut there", BoundaryPromisesTest::rich, r -> r.wouldCut(2, 3), NONE);
        asked("2 cuts", BoundaryPromisesTest::rich, r -> r.wouldCut(0, 5), NONE);
        asked("14 pieces", BoundaryPromisesTest::fourteenPieces, r -> r.wouldCut(4, 9), NONE);
        asked("as the real one", BoundaryPromisesTest::rich, r -> r.wouldCut(1, 7), after(rich(), m -> m.cut(1, 7)));
        sentence("Promise 18", "UNKNOWN, OUTSIDE");
        for (int v : FAR_OFF) {
            refused("x " + v, BoundaryPromisesTest::rich, r -> r.wouldCut(1, v), OUTSIDE);
        }
        refused("15", BoundaryPromisesTest::rich, r -> r.wouldCut(1, 15), OUTSIDE);
        refused("-1", BoundaryPromisesTest::rich, r -> r.wouldCut(1, -1), OUTSIDE);
        refused("no shape", TwoMasks::new, r -> r.wouldCut(0, 0), UNKNOWN);
        sentence("Section 3", "nothing FIXED by it");
        asked("a cut lets go", BoundaryPromisesTest::fixedRing, r -> r.wouldCut(0, 2), 1);
        asked("a move lets go", BoundaryPromisesTest::fixedRing, r -> r.wouldMove(0, 0, 0), 10);
        asked("nothing is let go by asking", BoundaryPromisesTest::fixedRing, r -> r.told(5), 30);
    }

    /** This cut makes a stitch of the clash; one at 0 alone would not. */
    private static TwoMasks cutRing() {
        TwoMasks ring = ringOfFive();
        ring.cut(0, 2);
        return ring;
    }

    /** What BEST costs after a call. */
    private static int after(TwoMasks m, ToIntFunction<TwoMasks> made) {
        made.applyAsInt(m);
        return m.told(5);
    }

    private static TwoMasks fixedRing() {
        TwoMasks ring = ringOfFive();
        ring.fix(0, 0);
        ring.fix(1, 0);
        ring.fix(2, 0);
        return ring;
    }

    private static void promise19() {
        sentence("Promise 19", "WOULD, were a SHAPE moved; NONE: it could not be");
        asked("farther", BoundaryPromisesTest::ringOfFive, r -> r.wouldMove(1, 2, 0), 0);
        asked("nowhere else", BoundaryPromisesTest::ringOfFive, r -> r.wouldMove(1, 0, 0), 10);
        asked("partly on its own places", BoundaryPromisesTest::ringOfFive, r -> r.wouldMove(1, 0, 1), 0);
        asked("on another", BoundaryPromisesTest::ringOfFive, r -> r.wouldMove(1, -1, 1), NONE);
        asked("a step too far left", BoundaryPromisesTest::rich, r -> r.wouldMove(0, -2, 0), NONE);
        asked("a step too far up", BoundaryPromisesTest::rich, r -> r.wouldMove(0, 0, -2), NONE);
        asked("a step too far right", BoundaryPromisesTest::rich, r -> r.wouldMove(0, 10, 9), NONE);
        asked("a step too far down", BoundaryPromisesTest::rich, r -> r.wouldMove(0, 0, 14), NONE);
        asked("with its cuts, to the edge", BoundaryPromisesTest::rich, r -> r.wouldMove(0, 9, 13), after(rich(), m -> m.move(0, 9, 13)));
        asked("15", () -> with(new int[] {0, 0, 0, 0}), r -> r.wouldMove(0, 15, 15), 0);
        asked("-15", () -> with(new int[] {15, 15, 15, 15}), r -> r.wouldMove(0, -15, -15), 0);
        sentence("Promise 19", "UNKNOWN, OUTSIDE");
        for (int v : FAR_OFF) {
            refused("dx " + v, BoundaryPromisesTest::rich, r -> r.wouldMove(0, v, 0), OUTSIDE);
            refused("dy " + v, BoundaryPromisesTest::rich, r -> r.wouldMove(0, 0, v), OUTSIDE);
        }
        refused("no shape", TwoMasks::new, r -> r.wouldMove(0, 0, 0), UNKNOWN);
    }

    private static void promise20() {
        sentence("Promise 20", "Least COST, were the MASKS of two PIECES alike (is true), unlike (FIXED ones so)");
        asked("alike", BoundaryPromisesTest::chain, r -> r.pair(0, 1, true), 10);
        asked("unlike", BoundaryPromisesTest::chain, r -> r.pair(0, 1, false), 0);
        asked("ends alike", BoundaryPromisesTest::chain, r -> r.pair(2, 0, true), 0);
        asked("ends unlike", BoundaryPromisesTest::chain, r -> r.pair(2, 0, false), 10);
        asked("the other is fixed", BoundaryPromisesTest::fixedEnds, r -> r.pair(0, 1, true), 20);
        asked("the other is fixed", BoundaryPromisesTest::fixedEnds, r -> r.pair(1, 2, false), 0);
        for (int mask = 0; mask <= 1; mask++) {
            int on = mask;
            asked("one of them is fixed on " + on, () -> fixedMiddle(on), r -> r.pair(0, 1, false), 0);
            asked("one of them is fixed on " + on, () -> fixedMiddle(on), r -> r.pair(1, 0, false), 0);
            asked("one of them is fixed on " + on, () -> fixedMiddle(on), r -> r.pair(0, 1, true), 10);
            asked("one of them is fixed on " + on, () -> fixedMiddle(on), r -> r.pair(1, 0, true), 10);
        }
        asked("pieces of one shape alike", BoundaryPromisesTest::fourteenPieces, r -> r.pair(12, 13, true), 0);
        asked("pieces of one shape unlike", BoundaryPromisesTest::fourteenPieces, r -> r.pair(13, 12, false), 1);
        sentence("Promise 20", "NONE: they cannot be");
        asked("fixed alike", BoundaryPromisesTest::fixedEnds, r -> r.pair(0, 2, false), NONE);
        asked("fixed alike", BoundaryPromisesTest::fixedEnds, r -> r.pair(2, 0, true), 0);
        asked("fixed unlike", BoundaryPromisesTest::fixedUnlike, r -> r.pair(0, 2, true), NONE);
        asked("fixed unlike", BoundaryPromisesTest::fixedUnlike, r -> r.pair(2, 0, false), 10);
        sentence("Promise 20", "UNKNOWN");
        refused("one twice", BoundaryPromisesTest::fixedEnds, r -> r.pair(0, 0, false), UNKNOWN);
        refused("one there is not", BoundaryPromisesTest::fixedEnds, r -> r.pair(0, 3, false), UNKNOWN);
        refused("one there is not, ahead", BoundaryPromisesTest::fixedEnds, r -> r.pair(-1, 0, true), UNKNOWN);
        refused("piece 14 of 14", BoundaryPromisesTest::fourteenPieces, r -> r.pair(14, 0, true), UNKNOWN);
    }

    private static TwoMasks fixedMiddle(int mask) {
        TwoMasks m = chain();
        m.fix(1, mask);
        return m;
    }

    private static TwoMasks fixedEnds() {
        TwoMasks m = chain();
        m.fix(0, 1);
        m.fix(2, 1);
        return m;
    }

    private static TwoMasks fixedUnlike() {
        TwoMasks m = chain();
        m.fix(0, 1);
        m.fix(2, 0);
        return m;
    }

    private static void promise21() {
        sentence("Promise 21", "IMAGE i becomes what is so (nothing can be undone then): how many SHAPES");
        TwoMasks m = rich();
        due("keep 1", m.keep(1), 3);
        due("nothing can be undone", m.told(20), 0);
        due("nothing can be undone", m.undo(), NOT);
        m.drop(0);
        due("kept over what was kept", m.keep(1), 2);
        m.drop(0);
        due("the later one", m.goBack(1), 2);
        due("the other image is as it was", m.goBack(0), 2);
        due("the other image's D", m.told(2), 4);
        due("of ten", tenShapes().keep(0), 10);
        due("of none", new TwoMasks().keep(1), 0);
        sentence("Promise 21", "UNKNOWN");
        for (int i : new int[] {2, -1, LEAST, MOST}) {
            refused("keep " + i, BoundaryPromisesTest::rich, r -> r.keep(i), UNKNOWN);
        }
    }

    private static void promise22() {
        sentence("Promise 22", "What is so becomes IMAGE i (nothing can be undone then): how many SHAPES");
        TwoMasks m = rich();
        due("back", m.goBack(0), 2);
        toldAre("all of it", m, new int[][] {{1, 2}, {2, 4}, {3, 1}, {4, 10}, {18, 0}, {20, 0}});
        due("nothing can be undone", m.undo(), NOT);
        m.drop(0);
        due("what was done since can be undone", m.undo(), 0);
        m.drop(0);
        due("back as often as one likes", m.goBack(0), 2);
        TwoMasks none = new TwoMasks();
        none.keep(1);
        none.shape(0, 0, 0, 0);
        due("back to nothing", none.goBack(1), 0);
        due("back to nothing", none.told(0), 0);
        sentence("Promise 22", "UNKNOWN, NOT: it was not kept");
        refused("1 was not kept", BoundaryPromisesTest::rich, r -> r.goBack(1), NOT);
        refused("0 was not kept", BoundaryPromisesTest::tenShapes, r -> r.goBack(0), NOT);
        for (int i : new int[] {2, -1, LEAST, MOST}) {
            refused("goBack " + i, BoundaryPromisesTest::rich, r -> r.goBack(i), UNKNOWN);
        }
    }

    public static void main(String[] args) {
        promise1();
        promise2();
        promise3();
        promise4();
        promise5();
        promise6();
        promise7();
        promise8();
        promise9();
        promise10();
        promise11();
        promise12();
        promise13();
        promise14();
        promise15();
        promise16();
        promise17();
        promise18();
        promise19();
        promise20();
        promise21();
        promise22();
        end();
    }
}
