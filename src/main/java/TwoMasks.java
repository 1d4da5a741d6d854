/**
 * One layer on two masks: shapes on a field, cut into pieces that are put on
 * one of two masks so that it costs as little as can be.
 *
 * All rows are made with the object and used again: no call makes an object.
 */
public final class TwoMasks {
    public static final int NONE = -1, UNKNOWN = -1000000001, OUTSIDE = -1000000002, NOT = -1000000003, FULL = -1000000004;

    private static final int FINE = 0;
    private static final int LAST_PLACE = 15;
    private static final int LAST_CUT = 14;
    private static final int MOST_SHAPES = 10;
    private static final int MOST_CUTS = 2;
    private static final int MOST_PIECES = 14;
    private static final int MOST_UNDONE = 8;
    private static final int MOST_LOTS = 20;
    private static final int LAST_SEED = 999999;
    private static final int LAST_TOLD = 20;
    private static final int LAST_OF_SHAPE = 8;
    private static final int LAST_OF_PIECE = 7;
    private static final int NO_COST_YET = 1000000000;

    private final Layout now;
    private final Pieces pieces;
    private final Links links;
    private final Best best;
    private boolean bestIsKnown;

    private final Layout tried;
    private final Pieces triedPieces;
    private final Best triedBest;

    private final History history;
    private final Layout firstImage;
    private final Layout secondImage;
    private boolean firstIsKept;
    private boolean secondIsKept;

    public TwoMasks() {
        now = new Layout();
        pieces = new Pieces();
        links = new Links(pieces);
        best = new Best(pieces);
        bestIsKnown = false;
        tried = new Layout();
        triedPieces = new Pieces();
        triedBest = new Best(triedPieces);
        history = new History();
        firstImage = new Layout();
        secondImage = new Layout();
        firstIsKept = false;
        secondIsKept = false;
    }

    // ---- shapes

    public int shape(int x, int y, int x2, int y2) {
        int refusal = now.refusalOfNew(x, y, x2, y2);
        if (refusal != FINE) {
            return refusal;
        }
        history.remember(now);
        now.putNew(x, y, x2, y2);
        layFree();
        return now.shapes - 1;
    }

    public int drop(int s) {
        if (!now.hasShape(s)) {
            return UNKNOWN;
        }
        history.remember(now);
        now.takeAway(s);
        layFree();
        return now.shapes;
    }

    public int move(int s, int dx, int dy) {
        int refusal = now.refusalOfStep(s, dx, dy);
        if (refusal != FINE) {
            return refusal;
        }
        history.remember(now);
        now.step(s, dx, dy);
        layFree();
        return now.areaOf(s);
    }

    public int cut(int s, int x) {
        int refusal = now.refusalOfCut(s, x);
        if (refusal != FINE) {
            return refusal;
        }
        history.remember(now);
        now.cuts[s] |= 1 << x;
        layFree();
        return pieces.count;
    }

    public int heal(int s, int x) {
        int refusal = now.refusalOfHealing(s, x);
        if (refusal != FINE) {
            return refusal;
        }
        history.remember(now);
        now.cuts[s] &= ~(1 << x);
        layFree();
        return pieces.count;
    }

    public int bound(int what, int v) {
        if (!Layout.isBound(what, v)) {
            return OUTSIDE;
        }
        history.remember(now);
        int was = now.boundOf(what);
        now.setBound(what, v);
        layAnew();
        return was;
    }

    public int fix(int piece, int mask) {
        if (!pieces.has(piece)) {
            return UNKNOWN;
        }
        if (mask < NONE || mask > 1) {
            return OUTSIDE;
        }
        if (now.fixedMaskOf(piece) == mask) {
            return NOT;
        }
        history.remember(now);
        now.setFixed(piece, mask);
        layAnew();
        return bestNow().cost;
    }

    public int turn() {
        history.remember(now);
        now.mirror();
        layFree();
        return bestNow().cost;
    }

    public int drift(int n, int seed) {
        if (n < 1 || n > MOST_LOTS || seed < 1 || seed > LAST_SEED) {
            return OUTSIDE;
        }
        history.remember(now);
        int lot = seed;
        for (int i = 0; i < n && !now.isFull(); i++) {
            int lotX = nextLot(lot);
            int lotY = nextLot(lotX);
            int lotWide = nextLot(lotY);
            int lotHigh = nextLot(lotWide);
            lot = lotHigh;
            int x = lotX % 16;
            int y = lotY % 16;
            int x2 = Math.min(LAST_PLACE, x + lotWide % 5);
            int y2 = Math.min(LAST_PLACE, y + lotHigh % 3);
            if (now.refusalOfNew(x, y, x2, y2) == FINE) {
                now.putNew(x, y, x2, y2);
            }
        }
        layFree();
        return now.shapes;
    }

    public int undo() {
        if (history.count == 0) {
            return NOT;
        }
        history.recall(now);
        layAnew();
        return history.count;
    }

    public int told(int what) {
        if (what < 0 || what > LAST_TOLD) {
            return OUTSIDE;
        }
        switch (what) {
            case 0: return now.shapes;
            case 1: return pieces.count;
            case 2: return now.distance;
            case 3: return now.stitch;
            case 4: return now.clash;
            case 11: return links.parts();
            case 12: return links.oddParts();
            case 13: return links.shortestOddRing();
            case 14: return links.core();
            case 15: return links.bridges();
            case 16: return links.hinges();
            case 17: return pieces.closePairs();
            case 18: return now.fixed;
            case 20: return history.count;
            default: return toldOfBest(what);
        }
    }

    public int ofShape(int s, int what) {
        if (!now.hasShape(s)) {
            return UNKNOWN;
        }
        if (what < 0 || what > LAST_OF_SHAPE) {
            return OUTSIDE;
        }
        int cuts = now.cuts[s];
        switch (what) {
            case 0: return now.x[s];
            case 1: return now.y[s];
            case 2: return now.x2[s];
            case 3: return now.y2[s];
            case 4: return now.areaOf(s);
            case 5: return Integer.bitCount(cuts);
            case 6: return now.piecesAhead(s);
            case 7: return lowestOf(cuts);
            default: return lowestOf(withoutLowest(cuts));
        }
    }

    public int ofPiece(int p, int what) {
        if (!pieces.has(p)) {
            return UNKNOWN;
        }
        if (what < 0 || what > LAST_OF_PIECE) {
            return OUTSIDE;
        }
        switch (what) {
            case 0: return pieces.shape[p];
            case 1: return pieces.x[p];
            case 2: return pieces.x2[p];
            case 3: return pieces.area[p];
            case 4: return bestNow().ones >> p & 1;
            case 5: return now.fixedMaskOf(p);
            case 6: return pieces.close[p];
            default: return links.partOf(p);
        }
    }

    public int gap(int p, int q) {
        if (!areTwoPieces(p, q)) {
            return UNKNOWN;
        }
        return pieces.gapOf(p, q);
    }

    public int at(int x, int y) {
        if (!isPlace(x) || !isPlace(y)) {
            return OUTSIDE;
        }
        return pieces.pieceAt(x, y);
    }

    // ---- asked

    public int judge(int masks) {
        if (masks < 0 || masks > pieces.all()) {
            return OUTSIDE;
        }
        return pieces.costOf(masks);
    }

    public int wouldCut(int s, int x) {
        int refusal = now.refusalOfCut(s, x);
        if (refusal == NOT || refusal == FULL) {
            return NONE;
        }
        if (refusal != FINE) {
            return refusal;
        }
        tried.become(now);
        tried.cuts[s] |= 1 << x;
        return costOfTried();
    }

    public int wouldMove(int s, int dx, int dy) {
        int refusal = now.refusalOfStep(s, dx, dy);
        if (refusal == NOT) {
            return NONE;
        }
        if (refusal != FINE) {
            return refusal;
        }
        tried.become(now);
        tried.step(s, dx, dy);
        return costOfTried();
    }

    public int pair(int p, int q, boolean is) {
        if (!areTwoPieces(p, q)) {
            return UNKNOWN;
        }
        int least = NONE;
        for (int mask = 0; mask <= 1; mask++) {
            int cost = costWith(p, mask, q, is ? mask : 1 - mask);
            if (cost != NONE && (least == NONE || cost < least)) {
                least = cost;
            }
        }
        return least;
    }

    // ---- images

    public int keep(int i) {
        if (i == 0) {
            firstImage.become(now);
            firstIsKept = true;
        } else if (i == 1) {
            secondImage.become(now);
            secondIsKept = true;
        } else {
            return UNKNOWN;
        }
        history.forget();
        return now.shapes;
    }

    public int goBack(int i) {
        if (i != 0 && i != 1) {
            return UNKNOWN;
        }
        if (i == 0 ? !firstIsKept : !secondIsKept) {
            return NOT;
        }
        now.become(i == 0 ? firstImage : secondImage);
        history.forget();
        layAnew();
        return now.shapes;
    }

    // ---- what the calls share

    /** Pieces may have other numbers now, so none stays FIXED. */
    private void layFree() {
        now.freeAll();
        layAnew();
    }

    private void layAnew() {
        pieces.lay(now);
        bestIsKnown = false;
    }

    /** BEST is dear, and many calls ask for it between two changes. */
    private Best bestNow() {
        if (!bestIsKnown) {
            best.find(now.fixed, now.fixedOnes);
            bestIsKnown = true;
        }
        return best;
    }

    private int toldOfBest(int what) {
        int ones = bestNow().ones;
        switch (what) {
            case 5: return best.cost;
            case 6: return pieces.stitchesOf(ones);
            case 7: return pieces.clashesOf(ones);
            case 8: return pieces.areaOf(pieces.all() & ~ones);
            case 9: return pieces.areaOf(ones);
            case 10: return best.ways;
            default: return ones;
        }
    }

    /** A cut or a move lets go of what is FIXED, so one that is only tried does too. */
    private int costOfTried() {
        triedPieces.lay(tried);
        triedBest.find(0, 0);
        return triedBest.cost;
    }

    private int costWith(int p, int maskOfP, int q, int maskOfQ) {
        tried.become(now);
        if (!tried.canBeOn(p, maskOfP) || !tried.canBeOn(q, maskOfQ)) {
            return NONE;
        }
        tried.setFixed(p, maskOfP);
        tried.setFixed(q, maskOfQ);
        triedPieces.lay(tried);
        triedBest.find(tried.fixed, tried.fixedOnes);
        return triedBest.cost;
    }

    private boolean areTwoPieces(int p, int q) {
        return pieces.has(p) && pieces.has(q) && p != q;
    }

    private static boolean isPlace(int v) {
        return v >= 0 && v <= LAST_PLACE;
    }

    private static int nextLot(int lot) {
        return (int) (lot * 16807L % 2147483647L);
    }

    private static int withoutLowest(int set) {
        return set & (set - 1);
    }

    private static int lowestOf(int set) {
        return set == 0 ? NONE : Integer.bitCount((set & -set) - 1);
    }

    /** All of section 1: what is kept in images and brought back by undo. */
    private static final class Layout {
        final int[] x = new int[MOST_SHAPES];
        final int[] y = new int[MOST_SHAPES];
        final int[] x2 = new int[MOST_SHAPES];
        final int[] y2 = new int[MOST_SHAPES];
        /** Bit k: a CUT at k; so they are in order from the left by themselves. */
        final int[] cuts = new int[MOST_SHAPES];
        int shapes = 0;
        int distance = 2;
        int stitch = 1;
        int clash = 10;
        int fixed = 0;
        /** Those of the fixed ones that are on mask 1. */
        int fixedOnes = 0;

        void become(Layout other) {
            System.arraycopy(other.x, 0, x, 0, MOST_SHAPES);
            System.arraycopy(other.y, 0, y, 0, MOST_SHAPES);
            System.arraycopy(other.x2, 0, x2, 0, MOST_SHAPES);
            System.arraycopy(other.y2, 0, y2, 0, MOST_SHAPES);
            System.arraycopy(other.cuts, 0, cuts, 0, MOST_SHAPES);
            shapes = other.shapes;
            distance = other.distance;
            stitch = other.stitch;
            clash = other.clash;
            fixed = other.fixed;
            fixedOnes = other.fixedOnes;
        }

        boolean hasShape(int s) {
            return s >= 0 && s < shapes && s < MOST_SHAPES;
        }

        int piecesAhead(int s) {
            int count = 0;
            for (int i = 0; i < s && i < shapes; i++) {
                count += 1 + Integer.bitCount(cuts[i]);
            }
            return count;
        }

        boolean isFull() {
            return shapes >= MOST_SHAPES || piecesAhead(shapes) >= MOST_PIECES;
        }

        int areaOf(int s) {
            return hasShape(s) ? (x2[s] - x[s] + 1) * (y2[s] - y[s] + 1) : 0;
        }

        int refusalOfNew(int left, int top, int right, int bottom) {
            if (!isOnField(left, top, right, bottom) || left > right || top > bottom) {
                return OUTSIDE;
            }
            if (!isFree(left, top, right, bottom, NONE)) {
                return NOT;
            }
            return isFull() ? FULL : FINE;
        }

        void putNew(int left, int top, int right, int bottom) {
            if (isFull()) {
                return;
            }
            x[shapes] = left;
            y[shapes] = top;
            x2[shapes] = right;
            y2[shapes] = bottom;
            cuts[shapes] = 0;
            shapes++;
        }

        void takeAway(int s) {
            if (!hasShape(s)) {
                return;
            }
            for (int i = s; i + 1 < shapes; i++) {
                x[i] = x[i + 1];
                y[i] = y[i + 1];
                x2[i] = x2[i + 1];
                y2[i] = y2[i + 1];
                cuts[i] = cuts[i + 1];
            }
            shapes--;
        }

        int refusalOfStep(int s, int dx, int dy) {
            if (!hasShape(s)) {
                return UNKNOWN;
            }
            if (!isStep(dx) || !isStep(dy)) {
                return OUTSIDE;
            }
            int left = x[s] + dx;
            int top = y[s] + dy;
            int right = x2[s] + dx;
            int bottom = y2[s] + dy;
            boolean can = isOnField(left, top, right, bottom) && isFree(left, top, right, bottom, s);
            return can ? FINE : NOT;
        }

        void step(int s, int dx, int dy) {
            if (!hasShape(s)) {
                return;
            }
            x[s] += dx;
            y[s] += dy;
            x2[s] += dx;
            y2[s] += dy;
            cuts[s] = dx >= 0 ? cuts[s] << dx : cuts[s] >> -dx;
        }

        int refusalOfCut(int s, int place) {
            if (!hasShape(s)) {
                return UNKNOWN;
            }
            if (!isCutPlace(place)) {
                return OUTSIDE;
            }
            boolean isInside = x[s] <= place && place + 1 <= x2[s];
            if (!isInside || isCutAt(s, place) || Integer.bitCount(cuts[s]) >= MOST_CUTS) {
                return NOT;
            }
            return piecesAhead(shapes) >= MOST_PIECES ? FULL : FINE;
        }

        int refusalOfHealing(int s, int place) {
            if (!hasShape(s)) {
                return UNKNOWN;
            }
            if (!isCutPlace(place)) {
                return OUTSIDE;
            }
            return isCutAt(s, place) ? FINE : NOT;
        }

        void mirror() {
            for (int s = 0; s < shapes; s++) {
                int left = x[s];
                x[s] = LAST_PLACE - x2[s];
                x2[s] = LAST_PLACE - left;
                cuts[s] = mirrored(cuts[s]);
            }
        }

        static boolean isBound(int what, int v) {
            switch (what) {
                case 0: return v >= 1 && v <= 8;
                case 1: return v >= 0 && v <= 9;
                case 2: return v >= 0 && v <= 99;
                default: return false;
            }
        }

        int boundOf(int what) {
            switch (what) {
                case 0: return distance;
                case 1: return stitch;
                default: return clash;
            }
        }

        void setBound(int what, int v) {
            switch (what) {
                case 0: distance = v; break;
                case 1: stitch = v; break;
                default: clash = v; break;
            }
        }

        int fixedMaskOf(int piece) {
            return (fixed >> piece & 1) == 0 ? NONE : fixedOnes >> piece & 1;
        }

        boolean canBeOn(int piece, int mask) {
            int fixedOn = fixedMaskOf(piece);
            return fixedOn == NONE || fixedOn == mask;
        }

        void setFixed(int piece, int mask) {
            int bit = 1 << piece;
            fixed = mask == NONE ? fixed & ~bit : fixed | bit;
            fixedOnes = mask == 1 ? fixedOnes | bit : fixedOnes & ~bit;
        }

        void freeAll() {
            fixed = 0;
            fixedOnes = 0;
        }

        private boolean isFree(int left, int top, int right, int bottom, int but) {
            for (int i = 0; i < shapes; i++) {
                boolean shares = left <= x2[i] && x[i] <= right && top <= y2[i] && y[i] <= bottom;
                if (i != but && shares) {
                    return false;
                }
            }
            return true;
        }

        private boolean isCutAt(int s, int place) {
            return (cuts[s] >> place & 1) != 0;
        }

        private static boolean isOnField(int left, int top, int right, int bottom) {
            return isPlace(left) && isPlace(top) && isPlace(right) && isPlace(bottom);
        }

        private static boolean isStep(int d) {
            return d >= -LAST_PLACE && d <= LAST_PLACE;
        }

        private static boolean isCutPlace(int place) {
            return place >= 0 && place <= LAST_CUT;
        }

        private static int mirrored(int places) {
            int other = 0;
            for (int k = 0; k <= LAST_CUT; k++) {
                other |= (places >> k & 1) << (LAST_CUT - k);
            }
            return other;
        }
    }

    /** The latest layouts, in a ring, so that the oldest is overwritten. */
    private static final class History {
        private final Layout[] ring = new Layout[MOST_UNDONE];
        private int next = 0;
        int count = 0;

        History() {
            for (int i = 0; i < MOST_UNDONE; i++) {
                ring[i] = new Layout();
            }
        }

        void remember(Layout layout) {
            ring[next].become(layout);
            next = next + 1 < MOST_UNDONE ? next + 1 : 0;
            count = Math.min(MOST_UNDONE, count + 1);
        }

        void recall(Layout layout) {
            if (count == 0) {
                return;
            }
            next = next > 0 ? next - 1 : MOST_UNDONE - 1;
            layout.become(ring[next]);
            count--;
        }

        void forget() {
            count = 0;
        }
    }

    /** What the cuts leave of the shapes of a layout, and which of it is close. */
    private static final class Pieces {
        final int[] shape = new int[MOST_PIECES];
        final int[] x = new int[MOST_PIECES];
        final int[] x2 = new int[MOST_PIECES];
        final int[] area = new int[MOST_PIECES];
        final int[] close = new int[MOST_PIECES];
        final int[] linked = new int[MOST_PIECES];
        private final int[] y = new int[MOST_PIECES];
        private final int[] y2 = new int[MOST_PIECES];
        int count = 0;
        private int stitch = 0;
        private int clash = 0;

        void lay(Layout layout) {
            count = 0;
            stitch = layout.stitch;
            clash = layout.clash;
            for (int s = 0; s < layout.shapes; s++) {
                int left = layout.x[s];
                int cuts = layout.cuts[s];
                for (int i = 0; i < MOST_CUTS && cuts != 0; i++) {
                    int right = lowestOf(cuts);
                    add(layout, s, left, right);
                    left = right + 1;
                    cuts = withoutLowest(cuts);
                }
                add(layout, s, left, layout.x2[s]);
            }
            link(layout.distance * layout.distance);
        }

        boolean has(int p) {
            return p >= 0 && p < count && p < MOST_PIECES;
        }

        int all() {
            return (1 << count) - 1;
        }

        int gapOf(int p, int q) {
            if (!has(p) || !has(q)) {
                return 0;
            }
            int dx = stepsBetween(x[p], x2[p], x[q], x2[q]);
            int dy = stepsBetween(y[p], y2[p], y[q], y2[q]);
            return dx * dx + dy * dy;
        }

        int pieceAt(int atX, int atY) {
            for (int p = 0; p < count; p++) {
                if (x[p] <= atX && atX <= x2[p] && y[p] <= atY && atY <= y2[p]) {
                    return p;
                }
            }
            return NONE;
        }

        int closePairs() {
            int twice = 0;
            for (int p = 0; p < count; p++) {
                twice += Integer.bitCount(close[p]);
            }
            return twice / 2;
        }

        int areaOf(int set) {
            int sum = 0;
            for (int p = 0; p < count; p++) {
                if ((set >> p & 1) != 0) {
                    sum += area[p];
                }
            }
            return sum;
        }

        int costOf(int ones) {
            return clash * clashesOf(ones) + stitch * stitchesOf(ones);
        }

        int clashesOf(int ones) {
            int sum = 0;
            for (int p = 0; p < count; p++) {
                sum += clashesWithEarlier(p, ones);
            }
            return sum;
        }

        int stitchesOf(int ones) {
            int sum = 0;
            for (int p = 0; p < count; p++) {
                sum += stitchWithEarlier(p, ones);
            }
            return sum;
        }

        /** What piece p costs with those of lower numbers, so that a search can add it piece by piece. */
        int costWithEarlier(int p, int ones) {
            return clash * clashesWithEarlier(p, ones) + stitch * stitchWithEarlier(p, ones);
        }

        private int clashesWithEarlier(int p, int ones) {
            if (p < 0 || p >= count) {
                return 0;
            }
            int likeP = (ones >> p & 1) != 0 ? ones : ~ones;
            int earlier = (1 << p) - 1;
            return Integer.bitCount(close[p] & earlier & likeP);
        }

        private int stitchWithEarlier(int p, int ones) {
            if (p < 1 || p >= count || shape[p - 1] != shape[p]) {
                return 0;
            }
            return (ones >> p ^ ones >> (p - 1)) & 1;
        }

        private void add(Layout layout, int s, int left, int right) {
            if (count >= MOST_PIECES || !layout.hasShape(s)) {
                return;
            }
            shape[count] = s;
            x[count] = left;
            x2[count] = right;
            y[count] = layout.y[s];
            y2[count] = layout.y2[s];
            area[count] = (right - left + 1) * (y2[count] - y[count] + 1);
            close[count] = 0;
            linked[count] = 0;
            count++;
        }

        private void link(int closeBelow) {
            for (int p = 0; p < count; p++) {
                for (int q = p + 1; q < count; q++) {
                    boolean isOfOneShape = shape[p] == shape[q];
                    boolean isClose = !isOfOneShape && gapOf(p, q) < closeBelow;
                    if (isClose) {
                        close[p] |= 1 << q;
                        close[q] |= 1 << p;
                    }
                    if (isClose || isOfOneShape && q == p + 1) {
                        linked[p] |= 1 << q;
                        linked[q] |= 1 << p;
                    }
                }
            }
        }

        private static int stepsBetween(int from, int to, int otherFrom, int otherTo) {
            return Math.max(0, Math.max(otherFrom - to, from - otherTo));
        }
    }

    /** How pieces hang together: section 2 but for the ways. */
    private static final class Links {
        private final Pieces pieces;

        Links(Pieces pieces) {
            this.pieces = pieces;
        }

        int partOf(int p) {
            return reached(1 << p, pieces.all());
        }

        int parts() {
            int sum = 0;
            int seen = 0;
            for (int p = 0; p < pieces.count; p++) {
                if ((seen >> p & 1) == 0) {
                    seen |= partOf(p);
                    sum++;
                }
            }
            return sum;
        }

        int oddParts() {
            int sum = 0;
            int seen = 0;
            for (int p = 0; p < pieces.count; p++) {
                if ((seen >> p & 1) == 0 && oddWalkFrom(p) != 0) {
                    seen |= partOf(p);
                    sum++;
                }
            }
            return sum;
        }

        int shortestOddRing() {
            int least = 0;
            for (int p = 0; p < pieces.count; p++) {
                int steps = oddWalkFrom(p);
                if (steps != 0 && (least == 0 || steps < least)) {
                    least = steps;
                }
            }
            return least;
        }

        int core() {
            int left = pieces.all();
            for (int round = 0; round < pieces.count; round++) {
                for (int p = 0; p < pieces.count; p++) {
                    if (Integer.bitCount(pieces.linked[p] & left) <= 1) {
                        left &= ~(1 << p);
                    }
                }
            }
            return left;
        }

        int bridges() {
            int sum = 0;
            for (int p = 0; p < pieces.count; p++) {
                for (int q = p + 1; q < pieces.count; q++) {
                    if ((pieces.linked[p] >> q & 1) != 0 && isBridge(p, q)) {
                        sum++;
                    }
                }
            }
            return sum;
        }

        int hinges() {
            int set = 0;
            for (int p = 0; p < pieces.count; p++) {
                if (isHinge(p)) {
                    set |= 1 << p;
                }
            }
            return set;
        }

        /** Another way from p to q leaves p by another link and never comes back to p. */
        private boolean isBridge(int p, int q) {
            int otherwise = reached(pieces.linked[p] & ~(1 << q), pieces.all() & ~(1 << p));
            return (otherwise >> q & 1) == 0;
        }

        private boolean isHinge(int p) {
            int others = partOf(p) & ~(1 << p);
            int first = others & -others;
            return reached(first, others) != others;
        }

        /**
         * The least odd number of steps, at most as many as there are pieces, by
         * which one comes from p to p along CLOSE ones; 0: none. The least of all
         * these walks meets no piece twice, so it is the shortest ring.
         */
        private int oddWalkFrom(int p) {
            int ends = 1 << p;
            for (int steps = 1; steps <= pieces.count; steps++) {
                ends = neighbours(pieces.close, ends);
                if ((steps & 1) == 1 && (ends >> p & 1) != 0) {
                    return steps;
                }
            }
            return 0;
        }

        private int reached(int from, int within) {
            int seen = from & within;
            for (int round = 0; round < pieces.count; round++) {
                int wider = seen | neighbours(pieces.linked, seen) & within;
                if (wider == seen) {
                    return seen;
                }
                seen = wider;
            }
            return seen;
        }

        private int neighbours(int[] rows, int set) {
            int union = 0;
            for (int p = 0; p < pieces.count && p < rows.length; p++) {
                if ((set >> p & 1) != 0) {
                    union |= rows[p];
                }
            }
            return union;
        }
    }

    /** The search for the masks that cost least. */
    private static final class Best {
        private final Pieces pieces;
        private int fixed = 0;
        private int fixedOnes = 0;
        private int uneven = 0;
        private int wholeArea = 0;
        int cost = 0;
        int ways = 0;
        int ones = 0;

        Best(Pieces pieces) {
            this.pieces = pieces;
        }

        void find(int fixedSet, int fixedOnesSet) {
            fixed = fixedSet;
            fixedOnes = fixedOnesSet;
            wholeArea = pieces.areaOf(pieces.all());
            cost = NO_COST_YET;
            ways = 0;
            ones = 0;
            search(this, 0, 0, 0, 0);
        }

        /** Goes through the masks in order, 0 ahead of 1: of like ones the first found stays. */
        private static void search(Best best, int piece, int onesSoFar, int costSoFar, int areaOfOnes) {
            if (costSoFar > best.cost) {
                return;
            }
            if (piece >= best.pieces.count || piece >= MOST_PIECES) {
                best.weigh(onesSoFar, costSoFar, areaOfOnes);
                return;
            }
            for (int mask = 0; mask <= 1; mask++) {
                if (best.mayBeOn(piece, mask)) {
                    int then = onesSoFar | mask << piece;
                    int costThen = costSoFar + best.pieces.costWithEarlier(piece, then);
                    search(best, piece + 1, then, costThen, areaOfOnes + mask * best.pieces.area[piece]);
                }
            }
        }

        private boolean mayBeOn(int piece, int mask) {
            return (fixed >> piece & 1) == 0 || (fixedOnes >> piece & 1) == mask;
        }

        private void weigh(int masks, int itsCost, int areaOfOnes) {
            int itsUneven = Math.abs(wholeArea - 2 * areaOfOnes);
            if (itsCost < cost) {
                cost = itsCost;
                ways = 0;
                uneven = itsUneven;
                ones = masks;
            }
            ways++;
            if (itsUneven < uneven) {
                uneven = itsUneven;
                ones = masks;
            }
        }
    }
}
