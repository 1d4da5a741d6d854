import java.util.function.Supplier;
import java.util.function.ToIntFunction;

/**
 * What the tests of the document's boundaries share: each test stands under the
 * sentence of DOC.md, in its own words, that it would catch if it were broken.
 */
abstract class Sentences {
    static final int NONE = -1;
    static final int UNKNOWN = -1000000001;
    static final int OUTSIDE = -1000000002;
    static final int NOT = -1000000003;
    static final int FULL = -1000000004;
    static final int LEAST = Integer.MIN_VALUE;
    static final int MOST = Integer.MAX_VALUE;

    private static String where = "";
    private static int checked = 1;
    private static int wrong = 0;

    /** Begins the test of a sentence: where it stands, and its words. */
    static void sentence(String place, String words) {
        endSentence();
        where = place + ", '" + words + "'";
        checked = 0;
    }

    private static void endSentence() {
        if (checked == 0) {
            tell("nothing is tested");
        }
    }

    private static void tell(String text) {
        wrong++;
        System.out.println(where + ": " + text);
    }

    static void due(String call, int got, int want) {
        checked++;
        if (got != want) {
            tell(call + " answered " + got + ", due is " + want);
        }
    }

    static void toldAre(String of, TwoMasks m, int[][] pairs) {
        for (int[] pair : pairs) {
            due(of + ", told " + pair[0], m.told(pair[0]), pair[1]);
        }
    }

    /** The call is refused, and what can be asked, undone and brought back later is as if it had not been made. */
    static void refused(String call, Supplier<TwoMasks> start, ToIntFunction<TwoMasks> made, int refusal) {
        TwoMasks with = start.get();
        TwoMasks without = start.get();
        due(call, made.applyAsInt(with), refusal);
        same(call + " (what is refused changes nothing)", with, without);
    }

    /** The call answers, and nothing else is different afterwards. */
    static void asked(String call, Supplier<TwoMasks> start, ToIntFunction<TwoMasks> made, int answer) {
        TwoMasks with = start.get();
        TwoMasks without = start.get();
        due(call, made.applyAsInt(with), answer);
        same(call + " (what is asked changes nothing)", with, without);
    }

    static void same(String what, TwoMasks one, TwoMasks other) {
        checked++;
        String got = allOf(one);
        String want = allOf(other);
        if (!got.equals(want)) {
            tell(what + ": the state is\n    " + got + ", due is\n    " + want);
        }
    }

    /** Some 370 calls at most, so that an object stays below its 512. */
    private static String allOf(TwoMasks m) {
        StringBuilder text = new StringBuilder();
        for (int what = 0; what <= 20; what++) {
            text.append(m.told(what)).append(' ');
        }
        for (int s = 0; s < m.told(0); s++) {
            for (int what = 0; what <= 8; what++) {
                text.append(m.ofShape(s, what)).append(' ');
            }
        }
        for (int p = 0; p < m.told(1); p++) {
            for (int what = 0; what <= 7; what++) {
                text.append(m.ofPiece(p, what)).append(' ');
            }
        }
        for (int left = m.told(20); left > 0; left--) {
            text.append("| undo ").append(m.undo()).append(' ');
            addShort(m, text);
        }
        for (int i = 0; i <= 1; i++) {
            text.append("| goBack ").append(m.goBack(i)).append(' ');
            addShort(m, text);
        }
        return text.toString();
    }

    private static void addShort(TwoMasks m, StringBuilder text) {
        for (int what : new int[] {0, 1, 2, 3, 4, 17, 18, 19}) {
            text.append(m.told(what)).append(' ');
        }
        int last = m.told(0) - 1;
        text.append(m.ofShape(last, 0)).append(' ').append(m.ofShape(last, 7)).append(' ');
    }

    static void end() {
        endSentence();
        if (wrong != 0) {
            System.out.println(wrong + " answers are not as due");
            System.exit(1);
        }
    }

    // ---- what lies on the field

    static TwoMasks with(int[]... shapes) {
        TwoMasks m = new TwoMasks();
        for (int[] s : shapes) {
            m.shape(s[0], s[1], s[2], s[3]);
        }
        return m;
    }

    /** Three shapes of one place: 0 close to 1, 1 close to 2. */
    static TwoMasks chain() {
        return with(new int[] {0, 0, 0, 0}, new int[] {1, 0, 1, 0}, new int[] {2, 0, 2, 0});
    }

    static TwoMasks triangle() {
        return with(new int[] {0, 0, 1, 0}, new int[] {2, 0, 3, 0}, new int[] {1, 1, 2, 1});
    }

    static TwoMasks ringOfFive() {
        return with(new int[] {0, 0, 4, 0}, new int[] {5, 1, 5, 3}, new int[] {3, 4, 4, 4}, new int[] {1, 4, 2, 4},
            new int[] {0, 1, 0, 3});
    }

    /** Of all that a refused call could harm some: cuts, bounds, fixed ones, image 0 (not 1), eight to undo. */
    static TwoMasks rich() {
        TwoMasks m = with(new int[] {1, 1, 6, 2}, new int[] {7, 1, 9, 3});
        m.bound(0, 4);
        m.keep(0);
        m.shape(1, 5, 9, 5);
        m.cut(0, 2);
        m.cut(0, 4);
        m.cut(2, 3);
        m.bound(0, 3);
        m.bound(1, 4);
        m.bound(2, 50);
        m.fix(1, 1);
        m.fix(4, 0);
        return m;
    }

    /** Ten shapes of one place each, none close to another. */
    static TwoMasks tenShapes() {
        TwoMasks m = new TwoMasks();
        for (int i = 0; i < 10; i++) {
            m.shape(i % 5 * 3, i / 5 * 3, i % 5 * 3, i / 5 * 3);
        }
        return m;
    }

    /** Five broad shapes in 14 pieces, the last cut once; rows 1, 2, 4, 5 .. are free. */
    static TwoMasks fourteenPieces() {
        TwoMasks m = new TwoMasks();
        for (int i = 0; i < 5; i++) {
            m.shape(0, 3 * i, 15, 3 * i);
            m.cut(i, 4);
            if (i < 4) {
                m.cut(i, 9);
            }
        }
        return m;
    }

    /** Ten shapes in 14 pieces: both bounds are met at once. */
    static TwoMasks tenInFourteen() {
        TwoMasks m = new TwoMasks();
        for (int i = 0; i < 10; i++) {
            m.shape(0, i, 15, i);
        }
        for (int i = 0; i < 4; i++) {
            m.cut(i, 7);
        }
        return m;
    }
}
