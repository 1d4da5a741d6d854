import java.util.function.ToIntFunction;

/** The boundary cases that the document's "Terms" name, sentence by sentence. */
public final class BoundaryTermsTest extends Sentences {
    private static final String HEAD = "Terms";
    private static final String ONE = "Section 1";
    private static final String TWO = "Section 2";
    private static final String THREE = "Section 3";

    // ---- ahead of section 1

    private static void numbersAndSets() {
        sentence(HEAD, "What has a number has it from 0 on, as it comes");
        TwoMasks m = with(new int[] {9, 9, 12, 9}, new int[] {0, 0, 1, 0});
        due("the first shape came first, though it lies behind", m.ofShape(0, 0), 9);
        due("the next", m.shape(5, 5, 5, 5), 2);
        due("the first piece", m.at(9, 9), 0);
        due("the second piece", m.at(0, 0), 1);
        sentence(HEAD, "A SET is a whole number, bit k for PIECE k");
        TwoMasks full = fourteenPieces();
        full.fix(13, 1);
        full.fix(0, 0);
        due("bit 13 and bit 0", full.told(18), 1 << 13 | 1);
        due("its own bit is in its part", full.ofPiece(13, 7), 1 << 13 | 1 << 12);
        sentence(HEAD, "They are far below all that is counted: -1000000001 and on");
        due("UNKNOWN", TwoMasks.UNKNOWN, -1000000001);
        due("OUTSIDE", TwoMasks.OUTSIDE, -1000000002);
        due("NOT", TwoMasks.NOT, -1000000003);
        due("FULL", TwoMasks.FULL, -1000000004);
        due("NONE", TwoMasks.NONE, -1);
    }

    private static void unknownOnes() {
        sentence(HEAD, "UNKNOWN (a SHAPE, PIECE, IMAGE that there is not; one twice, where two are asked)");
        for (int no : new int[] {3, -1, 10, 14, 32, 1 << 30, UNKNOWN, LEAST, MOST}) {
            refused("drop " + no, BoundaryTermsTest::rich, m -> m.drop(no), UNKNOWN);
            refused("move " + no, BoundaryTermsTest::rich, m -> m.move(no, 0, 0), UNKNOWN);
            refused("cut " + no, BoundaryTermsTest::rich, m -> m.cut(no, 3), UNKNOWN);
            refused("heal " + no, BoundaryTermsTest::rich, m -> m.heal(no, 2), UNKNOWN);
            refused("ofShape " + no, BoundaryTermsTest::rich, m -> m.ofShape(no, 0), UNKNOWN);
            refused("wouldCut " + no, BoundaryTermsTest::rich, m -> m.wouldCut(no, 3), UNKNOWN);
            refused("wouldMove " + no, BoundaryTermsTest::rich, m -> m.wouldMove(no, 0, 0), UNKNOWN);
        }
        for (int no : new int[] {6, -1, 14, 31, 32, 38, UNKNOWN, LEAST, MOST}) {
            refused("fix " + no, BoundaryTermsTest::rich, m -> m.fix(no, 0), UNKNOWN);
            refused("ofPiece " + no, BoundaryTermsTest::rich, m -> m.ofPiece(no, 0), UNKNOWN);
            refused("gap " + no, BoundaryTermsTest::rich, m -> m.gap(no, 0), UNKNOWN);
            refused("gap to " + no, BoundaryTermsTest::rich, m -> m.gap(5, no), UNKNOWN);
            refused("pair " + no, BoundaryTermsTest::rich, m -> m.pair(no, 0, true), UNKNOWN);
            refused("pair with " + no, BoundaryTermsTest::rich, m -> m.pair(5, no, false), UNKNOWN);
        }
        for (int no : new int[] {2, -1, 3, LEAST, MOST}) {
            refused("keep " + no, BoundaryTermsTest::rich, m -> m.keep(no), UNKNOWN);
            refused("goBack " + no, BoundaryTermsTest::rich, m -> m.goBack(no), UNKNOWN);
        }
        for (int p = 0; p <= 6; p++) {
            int twice = p;
            refused("gap, one twice", BoundaryTermsTest::rich, m -> m.gap(twice, twice), UNKNOWN);
            refused("pair, one twice, alike", BoundaryTermsTest::rich, m -> m.pair(twice, twice, true), UNKNOWN);
            refused("pair, one twice, unlike", BoundaryTermsTest::rich, m -> m.pair(twice, twice, false), UNKNOWN);
        }
    }

    private static void orderOfRefusals() {
        sentence(HEAD, "REFUSALS, of several the first in this order");
        refused("move, unknown and outside", BoundaryTermsTest::rich, m -> m.move(3, 16, 0), UNKNOWN);
        refused("move, outside and not", BoundaryTermsTest::rich, m -> m.move(0, 16, 0), OUTSIDE);
        refused("cut, unknown and outside", BoundaryTermsTest::rich, m -> m.cut(3, 15), UNKNOWN);
        refused("cut, outside and not", BoundaryTermsTest::rich, m -> m.cut(0, 15), OUTSIDE);
        refused("heal, unknown and outside", BoundaryTermsTest::rich, m -> m.heal(-1, -1), UNKNOWN);
        refused("heal, outside and not", BoundaryTermsTest::rich, m -> m.heal(1, -1), OUTSIDE);
        refused("fix, unknown and outside", BoundaryTermsTest::rich, m -> m.fix(6, 2), UNKNOWN);
        refused("fix, unknown and not so", BoundaryTermsTest::rich, m -> m.fix(6, NONE), UNKNOWN);
        refused("ofShape, unknown and outside", BoundaryTermsTest::rich, m -> m.ofShape(3, 9), UNKNOWN);
        refused("ofPiece, unknown and outside", BoundaryTermsTest::rich, m -> m.ofPiece(6, 8), UNKNOWN);
        refused("wouldCut, unknown and outside", BoundaryTermsTest::rich, m -> m.wouldCut(3, 15), UNKNOWN);
        refused("wouldCut, outside and none", BoundaryTermsTest::rich, m -> m.wouldCut(0, 15), OUTSIDE);
        refused("wouldMove, unknown and outside", BoundaryTermsTest::rich, m -> m.wouldMove(3, 0, 16), UNKNOWN);
        refused("wouldMove, outside and none", BoundaryTermsTest::rich, m -> m.wouldMove(0, 0, 16), OUTSIDE);
        refused("goBack, unknown and not kept", BoundaryTermsTest::rich, m -> m.goBack(2), UNKNOWN);
        refused("shape, outside and not", BoundaryTermsTest::rich, m -> m.shape(1, 1, 16, 1), OUTSIDE);
        refused("shape, outside (the wrong way round) and not", BoundaryTermsTest::rich, m -> m.shape(6, 2, 1, 1), OUTSIDE);
        refused("shape, outside and full", BoundaryTermsTest::tenShapes, m -> m.shape(15, 15, 16, 15), OUTSIDE);
        refused("shape, not and full", BoundaryTermsTest::tenShapes, m -> m.shape(0, 0, 0, 0), NOT);
        refused("shape, not and full of pieces", BoundaryTermsTest::fourteenPieces, m -> m.shape(0, 0, 0, 1), NOT);
        refused("cut, outside and full", BoundaryTermsTest::fourteenPieces, m -> m.cut(4, 15), OUTSIDE);
        refused("cut, there and full", BoundaryTermsTest::fourteenPieces, m -> m.cut(4, 4), NOT);
        refused("cut, two cuts and full", BoundaryTermsTest::fourteenPieces, m -> m.cut(0, 12), NOT);
        refused("cut, unknown and full", BoundaryTermsTest::fourteenPieces, m -> m.cut(5, 3), UNKNOWN);
    }

    // ---- section 1

    private static void fieldAndShapes() {
        sentence(ONE, "THE FIELD has PLACES X, Y, 0 .. 15 each");
        TwoMasks corners = with(new int[] {0, 0, 0, 0}, new int[] {15, 0, 15, 0}, new int[] {0, 15, 0, 15}, new int[] {15, 15, 15, 15});
        due("four corners", corners.told(0), 4);
        due("the last place", corners.at(15, 15), 3);
        due("beyond", corners.at(16, 15), OUTSIDE);
        due("beyond", corners.at(15, 16), OUTSIDE);
        sentence(ONE, "SHAPES (10 at most; none at first)");
        due("none at first", new TwoMasks().told(0), 0);
        due("ten", tenShapes().told(0), 10);
        refused("eleven", BoundaryTermsTest::tenShapes, m -> m.shape(15, 15, 15, 15), FULL);
        sentence(ONE, "all PLACES from X to X2, from Y to Y2");
        TwoMasks m = with(new int[] {3, 4, 6, 5});
        for (int y = 3; y <= 6; y++) {
            for (int x = 2; x <= 7; x++) {
                boolean isOn = x >= 3 && x <= 6 && (y == 4 || y == 5);
                due("at " + x + ", " + y, m.at(x, y), isOn ? 0 : NONE);
            }
        }
        sentence(ONE, "AREA: how many PLACES");
        due("of a shape", m.ofShape(0, 4), 8);
        due("of a place", corners.ofShape(3, 4), 1);
        due("of the field", with(new int[] {0, 0, 15, 15}).ofShape(0, 4), 256);
    }

    private static void noPlaceOfTwo() {
        sentence(ONE, "no PLACE is of two SHAPES");
        int[][] onIt = {{2, 2, 5, 5}, {8, 2, 9, 5}, {2, 8, 5, 9}, {8, 8, 9, 9}, {6, 6, 7, 7}, {0, 0, 15, 15}, {6, 0, 6, 15}, {0, 7, 15, 7},
            {5, 5, 8, 8}};
        for (int[] o : onIt) {
            refused("one place of both at least", () -> with(new int[] {5, 5, 8, 8}), m -> m.shape(o[0], o[1], o[2], o[3]), NOT);
        }
        int[][] beside = {{0, 5, 4, 8}, {9, 5, 15, 8}, {5, 0, 8, 4}, {5, 9, 8, 15}, {4, 4, 4, 4}, {9, 9, 9, 9}, {0, 0, 15, 4}, {9, 0, 15, 15}};
        for (int[] o : beside) {
            due("beside it", with(new int[] {5, 5, 8, 8}).shape(o[0], o[1], o[2], o[3]), 1);
        }
    }

    private static void cutsAndPieces() {
        sentence(ONE, "CUTS of a SHAPE (2 at most)");
        TwoMasks m = with(new int[] {2, 0, 12, 0});
        due("one", m.cut(0, 4), 2);
        due("two", m.cut(0, 7), 3);
        due("three", m.cut(0, 9), NOT);
        due("still two", m.ofShape(0, 5), 2);
        sentence(ONE, "at X: between the PLACES of X and of X and 1, both its own");
        TwoMasks n = with(new int[] {2, 0, 4, 0}, new int[] {5, 0, 5, 0});
        due("right of it", n.cut(0, 4), NOT);
        due("left of it", n.cut(0, 1), NOT);
        due("one place has none", n.cut(1, 5), NOT);
        due("one place has none", n.cut(1, 4), NOT);
        due("the last that it has", n.cut(0, 3), 3);
        due("left of the cut", n.at(3, 0), 0);
        due("right of the cut", n.at(4, 0), 1);
        due("the first that it has", n.cut(0, 2), 4);
        sentence(ONE, "PIECES: what CUTS leave of a SHAPE, from the left; numbered SHAPE by SHAPE; 14 at most");
        due("from the left, though cut later", n.at(2, 0), 0);
        due("the next shape's", n.at(5, 0), 3);
        due("14", fourteenPieces().told(1), 14);
        due("the last", fourteenPieces().at(15, 12), 13);
        refused("15 by a cut", BoundaryTermsTest::fourteenPieces, f -> f.cut(4, 9), FULL);
        refused("15 by a shape", BoundaryTermsTest::fourteenPieces, f -> f.shape(0, 15, 0, 15), FULL);
    }

    private static void gaps() {
        sentence(ONE, "(0, if some X is of both; next to one another: 1)");
        int[][] other = {{7, 9, 9, 9, 4}, {8, 9, 9, 9, 5}, {9, 9, 9, 9, 8}, {3, 3, 5, 3, 4}, {3, 3, 4, 3, 5}, {3, 3, 3, 3, 8}, {8, 5, 8, 5, 1},
            {4, 7, 4, 9, 1}, {6, 8, 6, 8, 1}, {5, 4, 5, 4, 1}, {8, 8, 8, 8, 2}, {4, 4, 4, 4, 2}, {0, 0, 15, 3, 4}, {9, 0, 9, 15, 4}};
        for (int[] o : other) {
            TwoMasks m = with(new int[] {5, 5, 7, 7}, o);
            due("gap", m.gap(0, 1), o[4]);
            due("gap, the other way", m.gap(1, 0), o[4]);
        }
        due("the longest", with(new int[] {0, 15, 0, 15}, new int[] {15, 0, 15, 0}).gap(0, 1), 450);
        TwoMasks cut = with(new int[] {0, 0, 15, 3});
        cut.cut(0, 3);
        cut.cut(0, 9);
        due("next to one another in a shape", cut.gap(0, 1), 1);
        due("first and third", cut.gap(0, 2), 49);
    }

    private static void close() {
        sentence(ONE, "CLOSE: two PIECES of unlike SHAPES whose GAP is less than D times D");
        for (int d = 1; d <= 8; d++) {
            TwoMasks as = with(new int[] {0, 0, 0, 0}, new int[] {d, 0, d, 0});
            as.bound(0, d);
            due("as far as D " + d, as.told(17), 0);
            due("as far as D " + d, as.ofPiece(0, 6), 0);
            TwoMasks nearer = with(new int[] {0, 0, 0, 0}, new int[] {0, d - 1, 0, d - 1});
            nearer.bound(0, d);
            due("a step less than D " + d, nearer.told(17), d == 1 ? 0 : 1);
        }
        int[][] aslant = {{2, 1, 1, 1}, {3, 2, 2, 1}, {5, 3, 4, 0}, {5, 4, 2, 1}, {8, 5, 6, 1}, {8, 7, 4, 0}, {8, 7, 3, 1}, {1, 1, 1, 0}};
        for (int[] a : aslant) {
            TwoMasks m = with(new int[] {4, 4, 4, 4}, new int[] {4 + a[1], 4 + a[2], 4 + a[1], 4 + a[2]});
            m.bound(0, a[0]);
            due("aslant, D " + a[0], m.told(17), a[3]);
            due("aslant, D " + a[0], m.ofPiece(1, 6), a[3]);
        }
        TwoMasks one = with(new int[] {0, 0, 15, 0});
        one.cut(0, 4);
        one.cut(0, 5);
        one.bound(0, 8);
        due("pieces of one shape are not", one.told(17), 0);
        due("pieces of one shape are not", one.ofPiece(1, 6), 0);
    }

    private static void bounds() {
        sentence(ONE, "(D 1 .. 8; 2 at first)");
        due("at first", new TwoMasks().told(2), 2);
        edges(0, 1, 8);
        sentence(ONE, "STITCH cost 0 .. 9 (1 at first)");
        due("at first", new TwoMasks().told(3), 1);
        edges(1, 0, 9);
        sentence(ONE, "CLASH cost 0 .. 99 (10 at first)");
        due("at first", new TwoMasks().told(4), 10);
        edges(2, 0, 99);
    }

    private static void edges(int what, int least, int most) {
        TwoMasks m = new TwoMasks();
        m.bound(what, most);
        due("the most", m.told(2 + what), most);
        due("the least", m.bound(what, least), most);
        due("the least", m.told(2 + what), least);
        refused("less", BoundaryTermsTest::rich, r -> r.bound(what, least - 1), OUTSIDE);
        refused("more", BoundaryTermsTest::rich, r -> r.bound(what, most + 1), OUTSIDE);
        refused("far less", BoundaryTermsTest::rich, r -> r.bound(what, LEAST), OUTSIDE);
        refused("far more", BoundaryTermsTest::rich, r -> r.bound(what, MOST), OUTSIDE);
    }

    private static void lettingGo(String call, ToIntFunction<TwoMasks> made) {
        TwoMasks m = rich();
        due("two fixed", m.told(18), 1 << 1 | 1 << 4);
        due(call + " is not refused", made.applyAsInt(m) > FULL + 1000 ? 1 : 0, 1);
        due(call + " lets go", m.told(18), 0);
        due(call + " lets go of the second piece", m.told(1) > 1 ? m.ofPiece(1, 5) : NONE, NONE);
        m.undo();
        due(call + " undone", m.told(18), 1 << 1 | 1 << 4);
        due(call + " undone", m.ofPiece(1, 5), 1);
        due(call + " undone", m.ofPiece(4, 5), 0);
    }

    private static void fixedOnes() {
        sentence(ONE, "(none at first; by shape(), drop(), move(), cut(), heal(), turn(), drift() that are not refused none is FIXED any more)");
        due("none at first", chain().told(18), 0);
        lettingGo("shape", m -> m.shape(15, 15, 15, 15));
        lettingGo("drop", m -> m.drop(2));
        lettingGo("move", m -> m.move(1, 1, 0));
        lettingGo("move by nothing", m -> m.move(1, 0, 0));
        lettingGo("cut", m -> m.cut(1, 7));
        lettingGo("heal", m -> m.heal(2, 3));
        lettingGo("turn", m -> m.turn());
        lettingGo("drift", m -> m.drift(1, 139));
        lettingGo("drift that places nothing", m -> m.drift(1, 1));
        refused("shape", BoundaryTermsTest::rich, m -> m.shape(1, 1, 1, 1), NOT);
        refused("drop", BoundaryTermsTest::rich, m -> m.drop(3), UNKNOWN);
        refused("move", BoundaryTermsTest::rich, m -> m.move(0, 1, 0), NOT);
        refused("cut", BoundaryTermsTest::rich, m -> m.cut(0, 3), NOT);
        refused("heal", BoundaryTermsTest::rich, m -> m.heal(0, 3), NOT);
        refused("drift", BoundaryTermsTest::rich, m -> m.drift(0, 1), OUTSIDE);
        TwoMasks m = rich();
        m.bound(0, 1);
        due("bound keeps them", m.told(18), 1 << 1 | 1 << 4);
        m.fix(0, 1);
        due("fix keeps them", m.told(18), 1 << 1 | 1 << 4 | 1);
        m.keep(1);
        due("keep keeps them", m.told(18), 1 << 1 | 1 << 4 | 1);
    }

    private static void costs() {
        sentence(ONE, "COST of MASKS: CLASH for each two CLOSE PIECES on one MASK, STITCH for each two PIECES next to one another of a SHAPE on unlike ones");
        TwoMasks three = with(new int[] {0, 0, 8, 0});
        three.cut(0, 2);
        three.cut(0, 5);
        int[] stitches = {0, 1, 2, 1, 1, 2, 1, 0};
        for (int masks = 0; masks < 8; masks++) {
            due("stitches by " + masks, three.judge(masks), stitches[masks]);
        }
        TwoMasks t = triangle();
        int[] clashes = {30, 10, 10, 10, 10, 10, 10, 30};
        for (int masks = 0; masks < 8; masks++) {
            due("clashes by " + masks, t.judge(masks), clashes[masks]);
        }
        t.bound(2, 99);
        due("the dearest clash", t.judge(0), 297);
        t.bound(2, 0);
        due("a clash for nothing", t.judge(0), 0);
        three.bound(1, 9);
        due("the dearest stitch", three.judge(2), 18);
        three.bound(1, 0);
        due("a stitch for nothing", three.judge(2), 0);
        TwoMasks ten = with(new int[] {0, 0, 0, 0}, new int[] {1, 0, 1, 0}, new int[] {2, 0, 2, 0}, new int[] {3, 0, 3, 0},
            new int[] {4, 0, 4, 0}, new int[] {5, 0, 5, 0}, new int[] {6, 0, 6, 0}, new int[] {7, 0, 7, 0}, new int[] {0, 1, 0, 1},
            new int[] {1, 1, 1, 1});
        ten.bound(0, 8);
        ten.bound(2, 99);
        due("all of ten close to one another", ten.told(17), 45);
        due("the dearest of all", ten.judge(0), 45 * 99);
        due("five and five", ten.told(5), 20 * 99);
        due("ways of five and five", ten.told(10), 252);
    }

    private static void best() {
        sentence(ONE, "BEST: MASKS by which FIXED ones are so and COST is least");
        TwoMasks c = chain();
        c.fix(0, 0);
        c.fix(1, 0);
        c.fix(2, 0);
        toldAre("all fixed", c, new int[][] {{5, 20}, {7, 2}, {19, 0}, {10, 1}, {8, 3}, {9, 0}});
        TwoMasks star = with(new int[] {0, 0, 6, 0}, new int[] {7, 0, 7, 0}, new int[] {8, 0, 14, 0});
        toldAre("cost ahead of evenness", star, new int[][] {{5, 0}, {19, 2}, {8, 14}, {9, 1}});
        sentence(ONE, "of like ones those by which AREAS of both MASKS differ least");
        TwoMasks less = with(new int[] {0, 0, 0, 0}, new int[] {0, 5, 2, 5});
        toldAre("more on 1", less, new int[][] {{19, 2}, {8, 1}, {9, 3}});
        TwoMasks four = with(new int[] {0, 0, 4, 0}, new int[] {0, 5, 3, 5}, new int[] {0, 10, 2, 10}, new int[] {0, 15, 1, 15});
        toldAre("5 and 2, 4 and 3", four, new int[][] {{19, 6}, {8, 7}, {9, 7}, {10, 16}});
        four.bound(2, 0);
        four.bound(0, 8);
        toldAre("clashes for nothing", four, new int[][] {{5, 0}, {19, 6}, {10, 16}});
        sentence(ONE, "of like ones the first (PIECE by PIECE 0 ahead of 1)");
        TwoMasks three = with(new int[] {0, 0, 0, 0}, new int[] {5, 0, 5, 0}, new int[] {10, 0, 10, 0});
        due("0, 0, 1 is the first of six", three.told(19), 4);
        three.fix(2, 0);
        due("0, 1, 0 then", three.told(19), 2);
        three.fix(0, 1);
        due("1, 0, 0 then", three.told(19), 1);
        due("one place, on 0", with(new int[] {3, 3, 3, 3}).told(19), 0);
        due("four corners, 0, 0, 1, 1", with(new int[] {0, 0, 0, 0}, new int[] {9, 0, 9, 0}, new int[] {0, 9, 0, 9},
            new int[] {9, 9, 9, 9}).told(19), 12);
    }

    // ---- section 2

    private static void parts() {
        sentence(TWO, "PIECES HANG TOGETHER by being CLOSE, or next to one another in a SHAPE (LINKED, both)");
        TwoMasks cut = with(new int[] {0, 0, 8, 0}, new int[] {0, 9, 0, 9});
        cut.cut(0, 2);
        cut.cut(0, 5);
        due("by cuts", cut.told(11), 2);
        due("by cuts", cut.ofPiece(0, 7), 7);
        due("first and third are not linked: two bridges", cut.told(15), 2);
        due("alone", cut.ofPiece(3, 7), 8);
        sentence(TWO, "PARTS: how many there are so");
        due("of none", new TwoMasks().told(11), 0);
        due("of one", with(new int[] {0, 0, 0, 0}).told(11), 1);
        due("of ten", tenShapes().told(11), 10);
        due("of five in 14", fourteenPieces().told(11), 5);
        due("of a chain", chain().told(11), 1);
        due("of two whose pieces have numbers in turn", trianglesInTurn().told(11), 2);
    }

    private static TwoMasks twoTriangles(int farther) {
        return with(new int[] {0, 0, 1, 0}, new int[] {2, 0, 3, 0}, new int[] {1, 1, 2, 1}, new int[] {4 + farther, 0, 5 + farther, 0},
            new int[] {6 + farther, 0, 7 + farther, 0}, new int[] {5 + farther, 1, 6 + farther, 1});
    }

    /** Pieces 0, 2, 4 are a triangle, 1, 3, 5 another. */
    private static TwoMasks trianglesInTurn() {
        return with(new int[] {0, 0, 1, 0}, new int[] {8, 0, 9, 0}, new int[] {2, 0, 3, 0}, new int[] {10, 0, 11, 0},
            new int[] {1, 1, 2, 1}, new int[] {9, 1, 10, 1});
    }

    private static TwoMasks ringOfNine() {
        return with(new int[] {1, 0, 5, 0}, new int[] {6, 0, 10, 0}, new int[] {11, 0, 14, 0}, new int[] {15, 1, 15, 5},
            new int[] {15, 6, 15, 10}, new int[] {8, 11, 14, 11}, new int[] {1, 11, 7, 11}, new int[] {0, 6, 0, 10}, new int[] {0, 1, 0, 5});
    }

    private static void rings() {
        sentence(TWO, "ODD: how many PARTS have a ring of an odd number of PIECES, each CLOSE to the next, the last to the first");
        due("of none", new TwoMasks().told(12), 0);
        due("a chain", chain().told(12), 0);
        due("a triangle", triangle().told(12), 1);
        due("two", twoTriangles(3).told(12), 2);
        due("two of one part", twoTriangles(0).told(12), 1);
        due("two whose pieces have numbers in turn", trianglesInTurn().told(12), 2);
        TwoMasks even = with(new int[] {0, 0, 0, 0}, new int[] {3, 0, 3, 0}, new int[] {0, 3, 0, 3}, new int[] {3, 3, 3, 3});
        even.bound(0, 4);
        toldAre("a ring of four", even, new int[][] {{17, 4}, {12, 0}, {13, 0}, {14, 15}, {15, 0}, {10, 2}});
        TwoMasks through = with(new int[] {0, 0, 3, 0}, new int[] {1, 1, 2, 1});
        through.cut(0, 1);
        toldAre("a ring of three by a cut", through, new int[][] {{12, 0}, {13, 0}, {14, 7}, {15, 0}, {16, 0}, {17, 2}});
        sentence(TWO, "SHORTEST: the least number of PIECES of such a ring, of all; 0: none");
        due("of none", new TwoMasks().told(13), 0);
        due("a chain", chain().told(13), 0);
        due("three", triangle().told(13), 3);
        due("five", ringOfFive().told(13), 5);
        toldAre("nine", ringOfNine(), new int[][] {{13, 9}, {12, 1}, {5, 10}, {10, 18}, {14, 511}, {15, 0}, {16, 0}});
        TwoMasks both = ringOfFive();
        both.shape(9, 9, 10, 9);
        both.shape(11, 9, 12, 9);
        both.shape(10, 10, 11, 10);
        toldAre("five and three", both, new int[][] {{13, 3}, {12, 2}, {11, 2}});
        TwoMasks threeFirst = twoTriangles(0);
        threeFirst.drop(5);
        threeFirst.drop(4);
        threeFirst.shape(8, 8, 12, 8);
        threeFirst.shape(13, 9, 13, 11);
        threeFirst.shape(11, 12, 12, 12);
        threeFirst.shape(9, 12, 10, 12);
        threeFirst.shape(8, 9, 8, 11);
        toldAre("three, one that hangs on it, and five", threeFirst, new int[][] {{13, 3}, {12, 2}, {11, 2}, {14, 0b1_1111_0111}});
        threeFirst.drop(0);
        toldAre("five alone", threeFirst, new int[][] {{13, 5}, {12, 1}, {14, 0b1111_1000}});
        TwoMasks tailed = triangle();
        tailed.shape(4, 0, 5, 0);
        due("the last is in no ring", tailed.told(13), 3);
    }

    private static void core() {
        sentence(TWO, "CORE: PIECES that are left, if of all PIECES one after the other those that are LINKED with one at most of those left are taken away");
        due("of none", new TwoMasks().told(14), 0);
        due("linked with none", with(new int[] {0, 0, 0, 0}).told(14), 0);
        due("linked with one", with(new int[] {0, 0, 0, 0}, new int[] {1, 0, 1, 0}).told(14), 0);
        due("a chain", chain().told(14), 0);
        due("a triangle", triangle().told(14), 7);
        TwoMasks tail = triangle();
        tail.shape(4, 0, 5, 0);
        tail.shape(6, 0, 7, 0);
        tail.shape(8, 0, 9, 0);
        toldAre("a tail", tail, new int[][] {{14, 7}, {15, 3}, {16, 2 + 8 + 16}});
        TwoMasks ahead = with(new int[] {8, 0, 9, 0}, new int[] {6, 0, 7, 0}, new int[] {4, 0, 5, 0}, new int[] {0, 0, 1, 0},
            new int[] {2, 0, 3, 0}, new int[] {1, 1, 2, 1});
        toldAre("a tail that came first", ahead, new int[][] {{14, 56}, {15, 3}, {16, 2 + 4 + 16}});
        due("what lies between rings stays", twoTriangles(0).told(14), 63);
    }

    private static void bridgesAndHinges() {
        sentence(TWO, "BRIDGE: two LINKED PIECES that would not HANG TOGETHER any more without that LINK");
        due("of none", new TwoMasks().told(15), 0);
        TwoMasks cut = with(new int[] {0, 0, 1, 0});
        cut.cut(0, 0);
        due("a cut", cut.told(15), 1);
        due("two close ones", with(new int[] {0, 0, 0, 0}, new int[] {1, 0, 1, 0}).told(15), 1);
        due("a triangle", triangle().told(15), 0);
        due("between triangles", twoTriangles(0).told(15), 1);
        due("five shapes in 14 pieces", fourteenPieces().told(15), 9);
        sentence(TWO, "HINGE: a PIECE without which the others of its PART would be in more than one");
        due("of none", new TwoMasks().told(16), 0);
        due("alone", with(new int[] {0, 0, 0, 0}).told(16), 0);
        due("one of two", cut.told(16), 0);
        due("the middle of three", chain().told(16), 2);
        due("the first of all", with(new int[] {1, 0, 1, 0}, new int[] {0, 0, 0, 0}, new int[] {2, 0, 2, 0}).told(16), 1);
        due("of a ring", triangle().told(16), 0);
        due("between triangles", twoTriangles(0).told(16), 2 + 8);
        due("piece 13 and its like are ends", fourteenPieces().told(16), 1 << 1 | 1 << 4 | 1 << 7 | 1 << 10);
        due("another part does not count", twoTriangles(3).told(16), 0);
    }

    private static void ways() {
        sentence(TWO, "WAYS: how many MASKS (FIXED ones so) have the COST of BEST");
        due("of none", new TwoMasks().told(10), 1);
        due("of one", with(new int[] {0, 0, 0, 0}).told(10), 2);
        due("uneven ones too", with(new int[] {0, 0, 0, 0}, new int[] {9, 0, 9, 9}).told(10), 4);
        TwoMasks all = fourteenPieces();
        due("of five shapes", all.told(10), 32);
        all.bound(1, 0);
        due("all there are", all.told(10), 16384);
        all.fix(13, 1);
        due("one fixed", all.told(10), 8192);
        for (int p = 0; p < 13; p++) {
            all.fix(p, p & 1);
        }
        due("all fixed", all.told(10), 1);
        due("all fixed", all.told(19), 0b10_1010_1010_1010);
    }

    // ---- section 3

    private static void lots() {
        sentence(THREE, "X (the SEED at first) becomes what is left of (X times 16807) by 2147483647 ahead of each number wanted");
        int[][] first = {{1, 7, 1, 10, 3}, {999999, 0, 0, 4, 0}};
        for (int[] f : first) {
            TwoMasks m = new TwoMasks();
            due("one", m.drift(1, f[0]), 1);
            for (int what = 0; what < 4; what++) {
                due("seed " + f[0] + ", " + what, m.ofShape(0, what), f[1 + what]);
            }
        }
        TwoMasks two = new TwoMasks();
        due("two", two.drift(2, 999999), 2);
        due("the second goes on where the first ended", two.at(12, 6), 1);
        sentence(THREE, "15 at most");
        int[][] clipped = {{226, 14, 15, 15, 15}, {25, 15, 12, 15, 12}, {139, 13, 13, 15, 15}, {999998, 9, 15, 12, 15}};
        for (int[] c : clipped) {
            TwoMasks m = new TwoMasks();
            due("one", m.drift(1, c[0]), 1);
            for (int what = 0; what < 4; what++) {
                due("seed " + c[0] + ", " + what, m.ofShape(0, what), c[1 + what]);
            }
        }
        sentence(THREE, "it is there, if it can be");
        TwoMasks m = new TwoMasks();
        due("the second lies on the first, the third does not", m.drift(3, 7), 2);
        due("the third", m.ofShape(1, 0), 9);
        due("the third", m.ofShape(1, 1), 1);
        due("none can be", m.drift(3, 7), 2);
        due("on a full field", with(new int[] {0, 0, 15, 15}).drift(20, 5), 1);
    }

    private static void undone(String call, ToIntFunction<TwoMasks> made) {
        TwoMasks m = rich();
        TwoMasks never = rich();
        due(call + " is not refused", made.applyAsInt(m) > FULL + 1000 ? 1 : 0, 1);
        due(call + ", eight at most", m.told(20), 8);
        due(call + ", seven are left", m.undo(), 7);
        for (int left = 6; left >= 0; left--) {
            never.undo();
            due(call + ", " + left + " are left", m.undo(), left);
            due("as if it had not been", m.told(19), never.told(19));
        }
        due(call + ", the oldest is lost", m.undo(), NOT);
        due("one is left where it was not made", never.undo(), 0);
    }

    private static void undo() {
        sentence(THREE, "UNDONE: the latest of shape(), drop(), move(), cut(), heal(), bound(), fix(), turn(), drift() that was not refused");
        undone("shape", m -> m.shape(15, 15, 15, 15));
        undone("drop", m -> m.drop(0));
        undone("move", m -> m.move(2, 3, 9));
        undone("move by nothing", m -> m.move(2, 0, 0));
        undone("cut", m -> m.cut(1, 8));
        undone("heal", m -> m.heal(0, 4));
        undone("bound", m -> m.bound(2, 0));
        undone("bound as it is", m -> m.bound(2, 50));
        undone("fix", m -> m.fix(0, 0));
        undone("fix no more", m -> m.fix(1, NONE));
        undone("turn", m -> m.turn());
        undone("drift", m -> m.drift(20, 12345));
        undone("drift that places nothing", m -> m.drift(1, 1));
        sentence(THREE, "(8 at most are kept, the oldest are lost)");
        TwoMasks m = new TwoMasks();
        for (int v = 0; v < 20; v++) {
            m.bound(2, v);
            due("how many", m.told(20), Math.min(8, v + 1));
        }
        for (int left = 7; left >= 0; left--) {
            due("undo", m.undo(), left);
            due("what it was", m.told(4), 11 + left);
        }
        due("none", m.undo(), NOT);
        due("as after the twelfth", m.told(4), 11);
        m.bound(2, 77);
        due("one again", m.told(20), 1);
        due("one again", m.undo(), 0);
        due("as it was", m.told(4), 11);
    }

    private static void images() {
        sentence(THREE, "IMAGES 0, 1 keep all of section 1");
        for (int i = 0; i <= 1; i++) {
            TwoMasks m = rich();
            TwoMasks n = rich();
            m.keep(i);
            n.keep(i);
            m.turn();
            m.drop(0);
            m.bound(0, 1);
            m.bound(1, 0);
            m.bound(2, 0);
            m.drift(20, 3);
            m.fix(0, 1);
            due("back", m.goBack(i), 3);
            same("image " + i, m, n);
        }
    }

    public static void main(String[] args) {
        numbersAndSets();
        unknownOnes();
        orderOfRefusals();
        fieldAndShapes();
        noPlaceOfTwo();
        cutsAndPieces();
        gaps();
        close();
        bounds();
        fixedOnes();
        costs();
        best();
        parts();
        rings();
        core();
        bridgesAndHinges();
        ways();
        lots();
        undo();
        images();
        end();
    }
}
