/** Each promise of the document by itself: ordinary inputs, edges, wrong inputs. */
public final class PromisesTest {
    private static final int NONE = -1;
    private static final int UNKNOWN = -1000000001;
    private static final int OUTSIDE = -1000000002;
    private static final int NOT = -1000000003;
    private static final int FULL = -1000000004;
    private static final int LEAST = Integer.MIN_VALUE;
    private static final int MOST = Integer.MAX_VALUE;

    private static int wrong = 0;

    private static void due(String call, int got, int want) {
        if (got != want) {
            wrong++;
            System.out.println(call + " answered " + got + ", due is " + want);
        }
    }

    /** All that can be asked without arguments from outside: what is refused leaves it as it is. */
    private static String all(TwoMasks m) {
        StringBuilder text = new StringBuilder();
        for (int what = 0; what <= 20; what++) {
            text.append(m.told(what)).append(' ');
        }
        for (int s = 0; s < 10; s++) {
            for (int what = 0; what <= 8; what++) {
                text.append(m.ofShape(s, what)).append(' ');
            }
        }
        for (int p = 0; p < 14; p++) {
            for (int what = 0; what <= 7; what++) {
                text.append(m.ofPiece(p, what)).append(' ');
            }
        }
        return text.toString();
    }

    private static void same(String what, String got, String want) {
        if (!got.equals(want)) {
            wrong++;
            System.out.println(what + ": the state is not as it was");
        }
    }

    /** Ten shapes of one place each, far from one another. */
    private static TwoMasks tenShapes() {
        TwoMasks m = new TwoMasks();
        for (int i = 0; i < 10; i++) {
            due("shape " + i, m.shape(i % 5 * 3, i / 5 * 3, i % 5 * 3, i / 5 * 3), i);
        }
        return m;
    }

    /** Five broad shapes, 14 pieces, the last shape with one cut only. */
    private static TwoMasks fourteenPieces() {
        TwoMasks m = new TwoMasks();
        for (int i = 0; i < 5; i++) {
            m.shape(0, 3 * i, 15, 3 * i);
            m.cut(i, 4);
            if (i < 4) {
                m.cut(i, 9);
            }
        }
        due("14 pieces", m.told(1), 14);
        return m;
    }

    /** A chain of three shapes: 0 close to 1, 1 close to 2. */
    private static TwoMasks chain() {
        TwoMasks m = new TwoMasks();
        m.shape(0, 0, 0, 0);
        m.shape(1, 0, 1, 0);
        m.shape(2, 0, 2, 0);
        return m;
    }

    /** Five shapes, each close to the next, the last to the first. */
    private static TwoMasks ringOfFive() {
        TwoMasks m = new TwoMasks();
        m.shape(0, 0, 4, 0);
        m.shape(5, 1, 5, 3);
        m.shape(3, 4, 4, 4);
        m.shape(1, 4, 2, 4);
        m.shape(0, 1, 0, 3);
        return m;
    }

    private static void promise1() {
        int[] due = {0, 0, 2, 1, 10, 0, 0, 0, 0, 0, 1, 0, 0, 0, 0, 0, 0, 0, 0, 0, 0};
        TwoMasks m = new TwoMasks();
        for (int what = 0; what < due.length; what++) {
            due("new, told " + what, m.told(what), due[what]);
        }
        due("new, undo", m.undo(), NOT);
        due("new, goBack", m.goBack(0), NOT);
        due("new, turn", m.turn(), 0);
    }

    private static void promise2() {
        TwoMasks m = new TwoMasks();
        due("whole field", m.shape(0, 0, 15, 15), 0);
        due("its area", m.ofShape(0, 4), 256);
        due("on it", m.shape(7, 7, 7, 7), NOT);
        due("outside ahead of not", m.shape(15, 15, 16, 15), OUTSIDE);
        TwoMasks n = new TwoMasks();
        String before = all(n);
        int[][] outside = {{-1, 0, 0, 0}, {0, -1, 0, 0}, {0, 0, 16, 0}, {0, 0, 0, 16}, {2, 0, 1, 0}, {0, 2, 0, 1},
            {LEAST, 0, 0, 0}, {0, 0, MOST, 0}, {0, LEAST, 0, MOST}, {16, 0, 16, 0}};
        for (int[] o : outside) {
            due("shape outside", n.shape(o[0], o[1], o[2], o[3]), OUTSIDE);
        }
        same("shape outside", all(n), before);
        due("corner", n.shape(15, 15, 15, 15), 0);
        due("side by side", n.shape(13, 15, 14, 15), 1);
        TwoMasks ten = tenShapes();
        before = all(ten);
        due("the eleventh", ten.shape(15, 15, 15, 15), FULL);
        due("not ahead of full", ten.shape(0, 0, 15, 15), NOT);
        same("shape full", all(ten), before);
        TwoMasks many = fourteenPieces();
        due("14 pieces", many.shape(0, 1, 0, 1), FULL);
        due("not ahead of 14 pieces", many.shape(0, 0, 0, 0), NOT);
        TwoMasks f = chain();
        f.fix(0, 1);
        f.shape(0, 0, 0, 0);
        due("refused, still fixed", f.told(18), 1);
        f.shape(9, 9, 9, 9);
        due("fixed no more", f.told(18), 0);
    }

    private static void promise3() {
        TwoMasks m = chain();
        m.cut(1, 1);
        m.fix(2, 1);
        String before = all(m);
        due("drop 3", m.drop(3), UNKNOWN);
        due("drop -1", m.drop(-1), UNKNOWN);
        due("drop least", m.drop(LEAST), UNKNOWN);
        due("drop most", m.drop(MOST), UNKNOWN);
        same("drop unknown", all(m), before);
        due("drop 0", m.drop(0), 2);
        due("those behind have a number less", m.ofShape(0, 0), 1);
        due("fixed no more", m.told(18), 0);
        due("drop the last", m.drop(1), 1);
        due("drop the only one", m.drop(0), 0);
        due("nothing left", m.drop(0), UNKNOWN);
        TwoMasks c = new TwoMasks();
        c.shape(0, 0, 3, 0);
        c.shape(0, 5, 5, 5);
        c.cut(1, 2);
        c.drop(0);
        due("cuts go along", c.ofShape(0, 7), 2);
        due("a new one has no cuts", c.shape(0, 9, 5, 9), 1);
        due("a new one has no cuts", c.ofShape(1, 5), 0);
    }

    private static void promise4() {
        TwoMasks m = new TwoMasks();
        m.shape(0, 0, 3, 1);
        m.shape(6, 0, 7, 0);
        m.cut(0, 0);
        m.cut(0, 2);
        due("move", m.move(0, 2, 3), 8);
        due("cut goes along", m.ofShape(0, 7), 2);
        due("cut goes along", m.ofShape(0, 8), 4);
        due("back", m.move(0, -2, -3), 8);
        due("cut comes back", m.ofShape(0, 7), 0);
        due("one on its own places", m.move(0, 1, 0), 8);
        due("cut goes along", m.ofShape(0, 8), 3);
        m.fix(0, 1);
        String before = all(m);
        due("unknown", m.move(2, 99, 99), UNKNOWN);
        due("unknown", m.move(-1, 0, 0), UNKNOWN);
        due("outside", m.move(0, 16, 0), OUTSIDE);
        due("outside", m.move(0, 0, -16), OUTSIDE);
        due("outside", m.move(0, MOST, LEAST), OUTSIDE);
        due("off the field", m.move(0, 15, 0), NOT);
        due("off the field", m.move(0, 0, 15), NOT);
        due("off the field", m.move(0, 0, -1), NOT);
        due("on another", m.move(0, 2, 0), NOT);
        same("move refused", all(m), before);
        due("by nothing", m.move(0, 0, 0), 8);
        due("fixed no more", m.told(18), 0);
        due("to the very edge", m.move(0, 11, 14), 8);
        due("to the very edge", m.ofShape(0, 2), 15);
        TwoMasks one = new TwoMasks();
        one.shape(0, 0, 0, 0);
        due("as far as can be", one.move(0, 15, 15), 1);
        due("as far as can be", one.at(15, 15), 0);
        due("as far as can be", one.move(0, -15, -15), 1);
    }

    private static void promise5() {
        TwoMasks m = new TwoMasks();
        m.shape(4, 0, 9, 0);
        m.shape(10, 0, 12, 0);
        String before = all(m);
        due("unknown ahead of outside", m.cut(2, 99), UNKNOWN);
        due("outside", m.cut(0, -1), OUTSIDE);
        due("outside", m.cut(0, 15), OUTSIDE);
        due("outside", m.cut(0, MOST), OUTSIDE);
        due("outside", m.cut(0, LEAST), OUTSIDE);
        due("left of it", m.cut(0, 3), NOT);
        due("its right side is another's", m.cut(0, 9), NOT);
        same("cut refused", all(m), before);
        due("first place", m.cut(0, 4), 3);
        due("there", m.cut(0, 4), NOT);
        due("last place", m.cut(0, 8), 4);
        due("two cuts", m.cut(0, 6), NOT);
        due("another", m.cut(1, 11), 5);
        m.fix(0, 0);
        m.cut(1, 11);
        due("refused, still fixed", m.told(18), 1);
        m.cut(1, 10);
        due("fixed no more", m.told(18), 0);
        TwoMasks edge = new TwoMasks();
        edge.shape(0, 0, 15, 0);
        due("at 0", edge.cut(0, 0), 2);
        due("at 14", edge.cut(0, 14), 3);
        TwoMasks many = fourteenPieces();
        before = all(many);
        due("full", many.cut(4, 9), FULL);
        due("not ahead of full", many.cut(4, 4), NOT);
        due("not ahead of full", many.cut(0, 2), NOT);
        same("cut full", all(many), before);
    }

    private static void promise6() {
        TwoMasks m = new TwoMasks();
        m.shape(0, 0, 9, 0);
        m.cut(0, 7);
        m.cut(0, 3);
        m.fix(0, 1);
        String before = all(m);
        due("unknown ahead of outside", m.heal(1, -1), UNKNOWN);
        due("outside", m.heal(0, -1), OUTSIDE);
        due("outside", m.heal(0, 15), OUTSIDE);
        due("outside", m.heal(0, MOST), OUTSIDE);
        due("none there", m.heal(0, 4), NOT);
        due("none there", m.heal(0, 14), NOT);
        same("heal refused", all(m), before);
        due("heal", m.heal(0, 3), 2);
        due("fixed no more", m.told(18), 0);
        due("the other stays", m.ofShape(0, 7), 7);
        due("twice", m.heal(0, 3), NOT);
        due("the other", m.heal(0, 7), 1);
        due("no cuts", m.ofShape(0, 5), 0);
    }

    private static void promise7() {
        TwoMasks m = chain();
        m.fix(1, 1);
        String before = all(m);
        int[][] outside = {{0, 0}, {0, 9}, {1, -1}, {1, 10}, {2, -1}, {2, 100}, {3, 1}, {-1, 1}, {LEAST, 1}, {0, MOST}};
        for (int[] o : outside) {
            due("bound outside", m.bound(o[0], o[1]), OUTSIDE);
        }
        same("bound outside", all(m), before);
        due("D", m.bound(0, 8), 2);
        due("D", m.bound(0, 1), 8);
        due("STITCH", m.bound(1, 9), 1);
        due("STITCH", m.bound(1, 0), 9);
        due("CLASH", m.bound(2, 99), 10);
        due("CLASH", m.bound(2, 0), 99);
        due("as it is", m.bound(2, 0), 0);
        due("still fixed", m.told(18), 2);
        due("D", m.told(2), 1);
        due("all can be undone", m.told(20), 8);
    }

    private static void promise8() {
        TwoMasks m = chain();
        String before = all(m);
        due("unknown ahead of outside", m.fix(3, 7), UNKNOWN);
        due("unknown", m.fix(-1, 0), UNKNOWN);
        due("unknown", m.fix(32, 0), UNKNOWN);
        due("outside", m.fix(0, 2), OUTSIDE);
        due("outside", m.fix(0, -2), OUTSIDE);
        due("not fixed", m.fix(0, NONE), NOT);
        same("fix refused", all(m), before);
        due("fix 0", m.fix(0, 1), 0);
        due("the rest goes along", m.told(19), 5);
        due("as it is", m.fix(0, 1), NOT);
        due("fix 1", m.fix(1, 1), 10);
        due("fix 2", m.fix(2, 1), 20);
        due("all fixed, one way", m.told(10), 1);
        due("another mask", m.fix(1, 0), 0);
        due("fixed on", m.ofPiece(1, 5), 0);
        due("no more", m.fix(1, NONE), 0);
        due("no more", m.ofPiece(1, 5), NONE);
        due("fixed", m.told(18), 5);
        due("free again, on again", m.fix(1, 1), 20);
    }

    private static void promise9() {
        TwoMasks m = new TwoMasks();
        m.shape(0, 2, 9, 3);
        m.shape(12, 0, 15, 0);
        m.cut(0, 1);
        m.cut(0, 4);
        m.fix(1, 1);
        due("turn", m.turn(), 0);
        due("X", m.ofShape(0, 0), 6);
        due("X2", m.ofShape(0, 2), 15);
        due("Y", m.ofShape(0, 1), 2);
        due("Y2", m.ofShape(0, 3), 3);
        due("first cut", m.ofShape(0, 7), 10);
        due("second cut", m.ofShape(0, 8), 13);
        due("first piece", m.ofPiece(0, 3), 10);
        due("second piece", m.ofPiece(1, 3), 6);
        due("third piece", m.ofPiece(2, 3), 4);
        due("the other shape", m.ofShape(1, 0), 0);
        due("fixed no more", m.told(18), 0);
        due("can be undone", m.undo(), 5);
        due("fixed again", m.told(18), 2);
        TwoMasks clashing = new TwoMasks();
        clashing.shape(0, 0, 1, 0);
        clashing.shape(2, 0, 3, 0);
        clashing.shape(1, 1, 2, 1);
        clashing.fix(0, 0);
        clashing.fix(1, 0);
        clashing.fix(2, 0);
        due("fixed", clashing.told(5), 30);
        due("turn lets go", clashing.turn(), 10);
    }

    private static void promise10() {
        TwoMasks m = new TwoMasks();
        m.shape(15, 15, 15, 15);
        m.fix(0, 1);
        String before = all(m);
        int[][] outside = {{0, 1}, {21, 1}, {1, 0}, {1, 1000000}, {-1, 1}, {1, -1}, {LEAST, MOST}, {MOST, 5}};
        for (int[] o : outside) {
            due("drift outside", m.drift(o[0], o[1]), OUTSIDE);
        }
        same("drift outside", all(m), before);
        // 16807, 282475249, 1622650073, 984943658: X 7, Y 1, 3 wider, 2 higher
        due("drift", m.drift(1, 1), 2);
        due("X", m.ofShape(1, 0), 7);
        due("Y", m.ofShape(1, 1), 1);
        due("X2", m.ofShape(1, 2), 10);
        due("Y2", m.ofShape(1, 3), 3);
        due("fixed no more", m.told(18), 0);
        m.fix(0, 1);
        due("the same again is not there", m.drift(1, 1), 2);
        due("not refused: fixed no more", m.told(18), 0);
        due("not refused: can be undone", m.told(20), 5);
        due("last seed", new TwoMasks().drift(20, 999999) > 0 ? 1 : 0, 1);
        TwoMasks ten = tenShapes();
        due("ten shapes", ten.drift(20, 5), 10);
        TwoMasks many = fourteenPieces();
        due("14 pieces", many.drift(20, 5), 5);
        due("14 pieces", many.told(1), 14);
        due("undone", many.told(20), 8);
    }

    private static void promise11() {
        TwoMasks m = new TwoMasks();
        due("none", m.undo(), NOT);
        m.shape(0, 0, 3, 0);
        for (int v = 0; v < 9; v++) {
            m.bound(1, v + 1);
        }
        for (int left = 7; left >= 0; left--) {
            due("undo", m.undo(), left);
            due("stitch", m.told(3), left + 1);
        }
        due("the oldest are lost", m.undo(), NOT);
        due("the shape stays", m.told(0), 1);
        TwoMasks n = new TwoMasks();
        String[] was = new String[9];
        was[0] = all(n);
        n.shape(0, 0, 5, 1);
        was[1] = all(n);
        n.cut(0, 2);
        was[2] = all(n);
        n.fix(1, 1);
        was[3] = all(n);
        n.bound(2, 7);
        was[4] = all(n);
        n.move(0, 3, 3);
        was[5] = all(n);
        n.heal(0, 5);
        was[6] = all(n);
        n.turn();
        was[7] = all(n);
        n.drift(5, 77);
        for (int left = 7; left >= 0; left--) {
            due("undo", n.undo(), left);
            same("undo to " + left, all(n), was[left]);
        }
        TwoMasks d = chain();
        String before = all(d);
        d.drop(1);
        due("undo a drop", d.undo(), 3);
        same("undo a drop", all(d), before);
        d.drop(9);
        due("what was refused is not undone", d.undo(), 2);
        due("two shapes", d.told(0), 2);
    }

    private static void promise12() {
        TwoMasks m = chain();
        m.bound(0, 2);
        int[] due = {3, 3, 2, 1, 10, 0, 0, 0, 2, 1, 2, 1, 0, 0, 0, 2, 2, 2, 0, 2, 4};
        for (int what = 0; what < due.length; what++) {
            due("chain, told " + what, m.told(what), due[what]);
        }
        for (int what : new int[] {-1, 21, LEAST, MOST}) {
            due("told outside", m.told(what), OUTSIDE);
        }
        TwoMasks ring = ringOfFive();
        int[] dueOfRing = {5, 5, 2, 1, 10, 10, 0, 1, 7, 8, 10, 1, 1, 5, 31, 0, 0, 5, 0, 26, 5};
        for (int what = 0; what < dueOfRing.length; what++) {
            due("ring of five, told " + what, ring.told(what), dueOfRing[what]);
        }
        stitchInRing();
        evenAndFirst();
    }

    /** A cut where the ring of five clashes makes a stitch of it; the ring goes through one shape then and is odd no more. */
    private static void stitchInRing() {
        TwoMasks ring = ringOfFive();
        due("would", ring.wouldCut(0, 2), 1);
        ring.cut(0, 2);
        due("cost", ring.told(5), 1);
        due("stitches", ring.told(6), 1);
        due("clashes", ring.told(7), 0);
        due("ways", ring.told(10), 2);
        due("one part", ring.told(11), 1);
        due("not odd", ring.told(12), 0);
        due("no ring", ring.told(13), 0);
        due("core by links", ring.told(14), 63);
        due("no bridge", ring.told(15), 0);
        ring.drop(4);
        due("bridges by links", ring.told(15), 4);
        due("hinges", ring.told(16), 14);
    }

    private static void evenAndFirst() {
        TwoMasks m = new TwoMasks();
        m.shape(0, 0, 4, 0);
        m.shape(0, 5, 3, 5);
        m.shape(0, 10, 2, 10);
        m.shape(0, 15, 1, 15);
        due("5 and 2, 4 and 3", m.told(19), 6);
        due("as even as can be", m.told(8), 7);
        due("as even as can be", m.told(9), 7);
        due("ways", m.told(10), 16);
        due("parts", m.told(11), 4);
        m.fix(0, 1);
        due("5 and 2 on 1", m.told(19), 9);
        due("ways", m.told(10), 8);
    }

    private static void promise13() {
        TwoMasks m = new TwoMasks();
        m.shape(1, 2, 8, 4);
        m.shape(10, 2, 12, 2);
        m.cut(0, 6);
        m.cut(0, 3);
        int[] first = {1, 2, 8, 4, 24, 2, 0, 3, 6};
        int[] second = {10, 2, 12, 2, 3, 0, 3, NONE, NONE};
        for (int what = 0; what < first.length; what++) {
            due("first, " + what, m.ofShape(0, what), first[what]);
            due("second, " + what, m.ofShape(1, what), second[what]);
        }
        due("unknown ahead of outside", m.ofShape(2, 9), UNKNOWN);
        due("unknown", m.ofShape(-1, 0), UNKNOWN);
        due("outside", m.ofShape(0, 9), OUTSIDE);
        due("outside", m.ofShape(0, -1), OUTSIDE);
        due("outside", m.ofShape(0, LEAST), OUTSIDE);
    }

    private static void promise14() {
        TwoMasks m = new TwoMasks();
        m.shape(1, 2, 8, 4);
        m.shape(9, 2, 12, 2);
        m.shape(0, 15, 0, 15);
        m.cut(0, 3);
        m.fix(0, 1);
        int[] first = {0, 1, 3, 9, 1, 1, 0, 7};
        int[] second = {0, 4, 8, 15, 1, NONE, 4, 7};
        int[] third = {1, 9, 12, 4, 0, NONE, 2, 7};
        int[] fourth = {2, 0, 0, 1, 0, NONE, 0, 8};
        for (int what = 0; what < first.length; what++) {
            due("first, " + what, m.ofPiece(0, what), first[what]);
            due("second, " + what, m.ofPiece(1, what), second[what]);
            due("third, " + what, m.ofPiece(2, what), third[what]);
            due("fourth, " + what, m.ofPiece(3, what), fourth[what]);
        }
        due("unknown ahead of outside", m.ofPiece(4, 8), UNKNOWN);
        due("unknown", m.ofPiece(-1, 0), UNKNOWN);
        due("outside", m.ofPiece(0, 8), OUTSIDE);
        due("outside", m.ofPiece(0, -1), OUTSIDE);
    }

    private static void promise15() {
        TwoMasks m = new TwoMasks();
        m.shape(0, 0, 2, 2);
        m.shape(3, 0, 3, 0);
        m.shape(3, 3, 4, 4);
        m.shape(15, 15, 15, 15);
        m.shape(1, 6, 9, 6);
        due("side by side", m.gap(0, 1), 1);
        due("corner to corner", m.gap(0, 2), 2);
        due("the other way", m.gap(2, 0), 2);
        due("far", m.gap(0, 3), 338);
        due("some X of both", m.gap(0, 4), 16);
        due("some X of both", m.gap(2, 4), 4);
        m.cut(0, 0);
        due("of one shape", m.gap(0, 1), 1);
        due("one twice", m.gap(1, 1), UNKNOWN);
        due("unknown", m.gap(0, 6), UNKNOWN);
        due("unknown", m.gap(-1, 0), UNKNOWN);
        due("unknown", m.gap(LEAST, MOST), UNKNOWN);
    }

    private static void promise16() {
        TwoMasks m = new TwoMasks();
        m.shape(0, 0, 15, 1);
        m.shape(3, 14, 5, 15);
        m.cut(0, 7);
        due("at", m.at(0, 0), 0);
        due("left of the cut", m.at(7, 1), 0);
        due("right of the cut", m.at(8, 1), 1);
        due("the last place", m.at(15, 0), 1);
        due("the other", m.at(5, 15), 2);
        due("none", m.at(6, 15), NONE);
        due("none", m.at(4, 13), NONE);
        int[][] outside = {{-1, 0}, {0, -1}, {16, 0}, {0, 16}, {LEAST, 0}, {0, MOST}};
        for (int[] o : outside) {
            due("at outside", m.at(o[0], o[1]), OUTSIDE);
        }
    }

    private static void promise17() {
        TwoMasks m = chain();
        due("all alike", m.judge(0), 20);
        due("all alike", m.judge(7), 20);
        due("best", m.judge(2), 0);
        due("one clash", m.judge(1), 10);
        m.fix(0, 1);
        due("whatever is fixed", m.judge(2), 0);
        due("a piece that there is not", m.judge(8), OUTSIDE);
        due("a piece that there is not", m.judge(-1), OUTSIDE);
        due("a piece that there is not", m.judge(LEAST), OUTSIDE);
        due("a piece that there is not", m.judge(MOST), OUTSIDE);
        TwoMasks many = fourteenPieces();
        due("nine stitches", many.judge(0b01_010_010_010_010), 9);
        due("all of 14", many.judge((1 << 14) - 1), 0);
        due("a piece that there is not", many.judge(1 << 14), OUTSIDE);
        due("none there", new TwoMasks().judge(1), OUTSIDE);
    }

    private static void promise18() {
        TwoMasks ring = ringOfFive();
        String before = all(ring);
        due("would", ring.wouldCut(0, 2), 1);
        due("what is right of it stays close to both", ring.wouldCut(0, 0), 10);
        due("both sides are not its own", ring.wouldCut(0, 4), NONE);
        due("unknown ahead of outside", ring.wouldCut(5, 15), UNKNOWN);
        due("unknown", ring.wouldCut(-1, 0), UNKNOWN);
        due("outside", ring.wouldCut(0, 15), OUTSIDE);
        due("outside", ring.wouldCut(0, -1), OUTSIDE);
        same("would changes nothing", all(ring), before);
        ring.fix(0, 0);
        ring.fix(1, 0);
        ring.fix(2, 0);
        due("nothing fixed by it", ring.wouldCut(0, 2), 1);
        due("it stays fixed", ring.told(18), 7);
        ring.cut(0, 1);
        due("it is cut there", ring.wouldCut(0, 1), NONE);
        ring.cut(0, 2);
        due("two cuts", ring.wouldCut(0, 3), NONE);
        due("14 pieces", fourteenPieces().wouldCut(4, 9), NONE);
    }

    private static void promise19() {
        TwoMasks ring = ringOfFive();
        String before = all(ring);
        due("as it is", ring.wouldMove(0, 0, 0), 10);
        due("farther", ring.wouldMove(1, 2, 0), 0);
        due("on another", ring.wouldMove(1, -1, 1), NONE);
        due("off the field", ring.wouldMove(0, 12, 0), NONE);
        due("unknown ahead of outside", ring.wouldMove(5, 16, 0), UNKNOWN);
        due("outside", ring.wouldMove(0, 16, 0), OUTSIDE);
        due("outside", ring.wouldMove(0, 0, -16), OUTSIDE);
        same("would changes nothing", all(ring), before);
        ring.fix(0, 0);
        ring.fix(1, 0);
        ring.fix(2, 0);
        due("fixed", ring.told(5), 30);
        due("nothing fixed by it", ring.wouldMove(0, 0, 0), 10);
        due("it stays fixed", ring.told(18), 7);
    }

    private static void promise20() {
        TwoMasks m = chain();
        due("alike", m.pair(0, 2, true), 0);
        due("unlike", m.pair(0, 2, false), 10);
        due("alike", m.pair(0, 1, true), 10);
        due("unlike", m.pair(1, 0, false), 0);
        due("one twice", m.pair(1, 1, true), UNKNOWN);
        due("unknown", m.pair(0, 3, true), UNKNOWN);
        due("unknown", m.pair(-1, 0, false), UNKNOWN);
        m.fix(0, 1);
        due("one fixed", m.pair(0, 2, false), 10);
        m.fix(2, 1);
        due("both fixed", m.pair(0, 2, true), 0);
        due("they cannot be", m.pair(0, 2, false), NONE);
        due("fixed ones so", m.pair(0, 1, true), 20);
        m.fix(2, 0);
        due("they cannot be", m.pair(2, 0, true), NONE);
        due("both fixed, unlike", m.pair(2, 0, false), 10);
        due("nothing is fixed by asking", m.told(18), 5);
    }

    private static void promise21() {
        TwoMasks m = chain();
        due("unknown", m.keep(2), UNKNOWN);
        due("unknown", m.keep(-1), UNKNOWN);
        due("refused: can be undone", m.told(20), 3);
        due("keep", m.keep(1), 3);
        due("nothing can be undone", m.told(20), 0);
        due("nothing can be undone", m.undo(), NOT);
        due("the other is not kept", m.goBack(0), NOT);
        m.drop(0);
        due("kept again", m.keep(1), 2);
        m.drop(0);
        due("the later one", m.goBack(1), 2);
    }

    private static void promise22() {
        TwoMasks m = new TwoMasks();
        m.shape(0, 0, 5, 1);
        m.shape(6, 0, 7, 1);
        m.cut(0, 2);
        m.bound(0, 3);
        m.bound(1, 4);
        m.bound(2, 50);
        m.fix(1, 1);
        m.keep(0);
        String kept = all(m);
        m.undo();
        m.turn();
        m.bound(0, 1);
        m.keep(1);
        m.drop(0);
        m.drift(3, 9);
        due("two to undo", m.told(20), 2);
        due("not refused by what is unknown", m.goBack(2), UNKNOWN);
        due("not refused by what is unknown", m.goBack(-1), UNKNOWN);
        due("refused: two to undo", m.told(20), 2);
        due("back", m.goBack(0), 2);
        same("all of section 1", all(m), kept);
        due("nothing can be undone", m.undo(), NOT);
        m.drop(0);
        due("again", m.goBack(0), 2);
        same("an image stays", all(m), kept);
        due("the other", m.goBack(1), 2);
        due("the other's D", m.told(2), 1);
        due("the other's X", m.ofShape(0, 0), 10);
        TwoMasks n = chain();
        due("not kept", n.goBack(1), NOT);
        due("refused: can be undone", n.told(20), 3);
        TwoMasks empty = new TwoMasks();
        due("an empty image", empty.keep(0), 0);
        empty.shape(0, 0, 0, 0);
        due("back to nothing", empty.goBack(0), 0);
    }

    public static void main(String[] args) {
        promise1();
        promise2();
        promise3();
        promise4();
        promise5();
        promise6();
        promise7();
        promise8();
        promise9();
        promise10();
        promise11();
        promise12();
        promise13();
        promise14();
        promise15();
        promise16();
        promise17();
        promise18();
        promise19();
        promise20();
        promise21();
        promise22();
        if (wrong != 0) {
            System.out.println(wrong + " answers are not as due");
            System.exit(1);
        }
    }
}
