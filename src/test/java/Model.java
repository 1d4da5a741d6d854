import java.util.ArrayDeque;
import java.util.ArrayList;
import java.util.Arrays;
import java.util.List;

/**
 * The document, told a second time and as plainly as can be: place by place,
 * all masks one by one. It is slow, and shares nothing with the program.
 */
final class Model {
    static final int NONE = -1;
    static final int UNKNOWN = -1000000001;
    static final int OUTSIDE = -1000000002;
    static final int NOT = -1000000003;
    static final int FULL = -1000000004;

    record Box(int x, int y, int x2, int y2, List<Integer> cuts) {
        boolean holds(int px, int py) {
            return x <= px && px <= x2 && y <= py && py <= y2;
        }

        int area() {
            return (x2 - x + 1) * (y2 - y + 1);
        }
    }

    record Piece(int shape, int x, int y, int x2, int y2) {
        int area() {
            return (x2 - x + 1) * (y2 - y + 1);
        }
    }

    /** fixed: a mask, or NONE, piece by piece. */
    record State(List<Box> boxes, int d, int stitch, int clash, List<Integer> fixed) {
    }

    record Answer(int cost, int ones, int ways) {
    }

    private State state = new State(List.of(), 2, 1, 10, List.of());
    private final ArrayDeque<State> earlier = new ArrayDeque<>();
    private final State[] images = new State[2];
    private State solvedState;
    private Answer solved;

    // ---- pieces and costs

    static List<Piece> piecesOf(State s) {
        List<Piece> all = new ArrayList<>();
        for (int i = 0; i < s.boxes().size(); i++) {
            Box b = s.boxes().get(i);
            int left = b.x();
            for (int x = b.x(); x <= b.x2(); x++) {
                if (x == b.x2() || b.cuts().contains(x)) {
                    all.add(new Piece(i, left, b.y(), x, b.y2()));
                    left = x + 1;
                }
            }
        }
        return all;
    }

    static int gapOf(Piece p, Piece q) {
        int dx = 99;
        int dy = 99;
        for (int a = p.x(); a <= p.x2(); a++) {
            for (int b = q.x(); b <= q.x2(); b++) {
                dx = Math.min(dx, Math.abs(a - b));
            }
        }
        for (int a = p.y(); a <= p.y2(); a++) {
            for (int b = q.y(); b <= q.y2(); b++) {
                dy = Math.min(dy, Math.abs(a - b));
            }
        }
        return dx * dx + dy * dy;
    }

    static boolean[][] closeOf(State s) {
        List<Piece> all = piecesOf(s);
        boolean[][] close = new boolean[all.size()][all.size()];
        for (int p = 0; p < all.size(); p++) {
            for (int q = 0; q < all.size(); q++) {
                close[p][q] = all.get(p).shape() != all.get(q).shape() && gapOf(all.get(p), all.get(q)) < s.d() * s.d();
            }
        }
        return close;
    }

    static boolean[][] stitchedOf(State s) {
        List<Piece> all = piecesOf(s);
        boolean[][] next = new boolean[all.size()][all.size()];
        for (int p = 0; p < all.size(); p++) {
            for (int q = 0; q < all.size(); q++) {
                Piece a = all.get(p);
                Piece b = all.get(q);
                next[p][q] = a.shape() == b.shape() && (a.x2() + 1 == b.x() || b.x2() + 1 == a.x());
            }
        }
        return next;
    }

    static int clashes(boolean[][] close, int ones) {
        return pairsWith(close, ones, true);
    }

    static int stitches(boolean[][] next, int ones) {
        return pairsWith(next, ones, false);
    }

    private static int pairsWith(boolean[][] rows, int ones, boolean alike) {
        int sum = 0;
        for (int p = 0; p < rows.length; p++) {
            for (int q = p + 1; q < rows.length; q++) {
                boolean like = (ones >> p & 1) == (ones >> q & 1);
                if (rows[p][q] && like == alike) {
                    sum++;
                }
            }
        }
        return sum;
    }

    static Answer solve(State s) {
        List<Piece> all = piecesOf(s);
        int n = all.size();
        boolean[][] close = closeOf(s);
        boolean[][] next = stitchedOf(s);
        int bestCost = Integer.MAX_VALUE;
        int bestUneven = 0;
        int bestOnes = 0;
        int ways = 0;
        for (int ones = 0; ones < 1 << n; ones++) {
            if (!keepsFixed(s, ones)) {
                continue;
            }
            int cost = s.clash() * clashes(close, ones) + s.stitch() * stitches(next, ones);
            int uneven = Math.abs(areaOn(all, ones, 0) - areaOn(all, ones, 1));
            if (cost == bestCost) {
                ways++;
            } else if (cost < bestCost) {
                ways = 1;
            }
            boolean better = cost < bestCost
                || cost == bestCost && uneven < bestUneven
                || cost == bestCost && uneven == bestUneven && isAhead(ones, bestOnes, n);
            if (better) {
                bestCost = cost;
                bestUneven = uneven;
                bestOnes = ones;
            }
        }
        return new Answer(bestCost, bestOnes, ways);
    }

    private static boolean keepsFixed(State s, int ones) {
        for (int p = 0; p < s.fixed().size(); p++) {
            if (s.fixed().get(p) != NONE && s.fixed().get(p) != (ones >> p & 1)) {
                return false;
            }
        }
        return true;
    }

    private static boolean isAhead(int ones, int other, int n) {
        for (int p = 0; p < n; p++) {
            int a = ones >> p & 1;
            int b = other >> p & 1;
            if (a != b) {
                return a < b;
            }
        }
        return false;
    }

    private static int areaOn(List<Piece> all, int ones, int mask) {
        int sum = 0;
        for (int p = 0; p < all.size(); p++) {
            if ((ones >> p & 1) == mask) {
                sum += all.get(p).area();
            }
        }
        return sum;
    }

    private Answer best() {
        if (solvedState != state) {
            solvedState = state;
            solved = solve(state);
        }
        return solved;
    }

    // ---- how they hang together

    static boolean[][] linkedOf(State s) {
        boolean[][] close = closeOf(s);
        boolean[][] next = stitchedOf(s);
        boolean[][] linked = new boolean[close.length][close.length];
        for (int p = 0; p < close.length; p++) {
            for (int q = 0; q < close.length; q++) {
                linked[p][q] = close[p][q] || next[p][q];
            }
        }
        return linked;
    }

    /** The number of its part, piece by piece; NONE for those of 'without'. */
    private static int[] partNumbers(boolean[][] linked, int without) {
        int n = linked.length;
        int[] part = new int[n];
        for (int p = 0; p < n; p++) {
            part[p] = p == without ? NONE : p;
        }
        for (int round = 0; round < n; round++) {
            for (int p = 0; p < n; p++) {
                for (int q = 0; q < n; q++) {
                    if (p != without && q != without && linked[p][q]) {
                        part[p] = Math.min(part[p], part[q]);
                    }
                }
            }
        }
        return part;
    }

    private static int countParts(int[] part) {
        return (int) Arrays.stream(part).filter(v -> v != NONE).distinct().count();
    }

    /** A shortest odd ring has no short cut, so its pieces have two close ones among them each. */
    private static int shortest(boolean[][] close, int within) {
        int n = close.length;
        int least = 0;
        for (int set = 1; set < 1 << n; set++) {
            int size = Integer.bitCount(set);
            if ((set & ~within) == 0 && size % 2 == 1 && size >= 3 && (least == 0 || size < least) && isRing(close, set)) {
                least = size;
            }
        }
        return least;
    }

    private static boolean isRing(boolean[][] close, int set) {
        int n = close.length;
        for (int p = 0; p < n; p++) {
            int has = 0;
            for (int q = 0; q < n; q++) {
                if ((set >> p & 1) == 1 && (set >> q & 1) == 1 && close[p][q]) {
                    has++;
                }
            }
            if ((set >> p & 1) == 1 && has != 2) {
                return false;
            }
        }
        int start = Integer.numberOfTrailingZeros(set);
        int before = NONE;
        int here = start;
        int steps = 0;
        do {
            int next = NONE;
            for (int q = 0; q < n && next == NONE; q++) {
                if ((set >> q & 1) == 1 && close[here][q] && q != before) {
                    next = q;
                }
            }
            before = here;
            here = next;
            steps++;
        } while (here != start);
        return steps == Integer.bitCount(set);
    }

    private static int partSet(int[] part, int number) {
        int set = 0;
        for (int p = 0; p < part.length; p++) {
            if (part[p] == number) {
                set |= 1 << p;
            }
        }
        return set;
    }

    /** By the masks: a part with an odd ring is one that cannot be put on two masks without a clash. */
    private int odd() {
        boolean[][] close = closeOf(state);
        int[] part = partNumbers(linkedOf(state), NONE);
        int sum = 0;
        for (int number = 0; number < part.length; number++) {
            int set = partSet(part, number);
            if (set != 0 && !canBeWithoutClash(close, set)) {
                sum++;
            }
        }
        return sum;
    }

    private static boolean canBeWithoutClash(boolean[][] close, int set) {
        for (int ones = set; ; ones = (ones - 1) & set) {
            if (isWithoutClash(close, set, ones)) {
                return true;
            }
            if (ones == 0) {
                return false;
            }
        }
    }

    private static boolean isWithoutClash(boolean[][] close, int set, int ones) {
        for (int p = 0; p < close.length; p++) {
            for (int q = 0; q < p; q++) {
                boolean both = (set >> p & 1) == 1 && (set >> q & 1) == 1;
                if (both && close[p][q] && (ones >> p & 1) == (ones >> q & 1)) {
                    return false;
                }
            }
        }
        return true;
    }

    private static int core(boolean[][] linked) {
        List<Integer> left = new ArrayList<>();
        for (int p = 0; p < linked.length; p++) {
            left.add(p);
        }
        while (left.removeIf(p -> left.stream().filter(q -> linked[p][q]).count() <= 1)) {
            // again, until none is taken away
        }
        return left.stream().mapToInt(p -> 1 << p).sum();
    }

    private static int bridges(boolean[][] linked) {
        int whole = countParts(partNumbers(linked, NONE));
        int sum = 0;
        for (int p = 0; p < linked.length; p++) {
            for (int q = 0; q < p; q++) {
                if (linked[p][q]) {
                    linked[p][q] = false;
                    linked[q][p] = false;
                    sum += countParts(partNumbers(linked, NONE)) > whole ? 1 : 0;
                    linked[p][q] = true;
                    linked[q][p] = true;
                }
            }
        }
        return sum;
    }

    private static int hinges(boolean[][] linked) {
        int whole = countParts(partNumbers(linked, NONE));
        int set = 0;
        for (int p = 0; p < linked.length; p++) {
            if (countParts(partNumbers(linked, p)) > whole) {
                set |= 1 << p;
            }
        }
        return set;
    }

    // ---- the calls

    private boolean hasShape(int s) {
        return s >= 0 && s < state.boxes().size();
    }

    private boolean hasPiece(int p) {
        return p >= 0 && p < piecesOf(state).size();
    }

    private static boolean in(int v, int from, int to) {
        return v >= from && v <= to;
    }

    private static List<Integer> noneFixed(List<Box> boxes) {
        int n = boxes.stream().mapToInt(b -> b.cuts().size() + 1).sum();
        return new ArrayList<>(java.util.Collections.nCopies(n, NONE));
    }

    private State withBoxes(List<Box> boxes) {
        return new State(boxes, state.d(), state.stitch(), state.clash(), noneFixed(boxes));
    }

    private void become(State next) {
        earlier.addLast(state);
        if (earlier.size() > 8) {
            earlier.removeFirst();
        }
        state = next;
    }

    private static boolean isTaken(List<Box> boxes, Box box, int but) {
        for (int i = 0; i < boxes.size(); i++) {
            for (int x = box.x(); x <= box.x2(); x++) {
                for (int y = box.y(); y <= box.y2(); y++) {
                    if (i != but && boxes.get(i).holds(x, y)) {
                        return true;
                    }
                }
            }
        }
        return false;
    }

    private static boolean isFull(List<Box> boxes) {
        return boxes.size() == 10 || noneFixed(boxes).size() == 14;
    }

    int shape(int x, int y, int x2, int y2) {
        if (!in(x, 0, 15) || !in(y, 0, 15) || !in(x2, 0, 15) || !in(y2, 0, 15) || x > x2 || y > y2) {
            return OUTSIDE;
        }
        Box box = new Box(x, y, x2, y2, List.of());
        if (isTaken(state.boxes(), box, NONE)) {
            return NOT;
        }
        if (isFull(state.boxes())) {
            return FULL;
        }
        List<Box> boxes = new ArrayList<>(state.boxes());
        boxes.add(box);
        become(withBoxes(boxes));
        return boxes.size() - 1;
    }

    int drop(int s) {
        if (!hasShape(s)) {
            return UNKNOWN;
        }
        List<Box> boxes = new ArrayList<>(state.boxes());
        boxes.remove(s);
        become(withBoxes(boxes));
        return boxes.size();
    }

    /** The state after a move, or null if it can't be. */
    private State moved(int s, int dx, int dy) {
        Box b = state.boxes().get(s);
        Box next = new Box(b.x() + dx, b.y() + dy, b.x2() + dx, b.y2() + dy, b.cuts().stream().map(c -> c + dx).toList());
        boolean on = next.x() >= 0 && next.y() >= 0 && next.x2() <= 15 && next.y2() <= 15;
        if (!on || isTaken(state.boxes(), next, s)) {
            return null;
        }
        List<Box> boxes = new ArrayList<>(state.boxes());
        boxes.set(s, next);
        return withBoxes(boxes);
    }

    private int stepRefusal(int s, int dx, int dy) {
        if (!hasShape(s)) {
            return UNKNOWN;
        }
        return in(dx, -15, 15) && in(dy, -15, 15) ? 0 : OUTSIDE;
    }

    int move(int s, int dx, int dy) {
        if (stepRefusal(s, dx, dy) != 0) {
            return stepRefusal(s, dx, dy);
        }
        State next = moved(s, dx, dy);
        if (next == null) {
            return NOT;
        }
        become(next);
        return state.boxes().get(s).area();
    }

    int wouldMove(int s, int dx, int dy) {
        if (stepRefusal(s, dx, dy) != 0) {
            return stepRefusal(s, dx, dy);
        }
        State next = moved(s, dx, dy);
        return next == null ? NONE : solve(next).cost();
    }

    private int cutRefusal(int s, int x) {
        if (!hasShape(s)) {
            return UNKNOWN;
        }
        if (!in(x, 0, 14)) {
            return OUTSIDE;
        }
        Box b = state.boxes().get(s);
        if (!b.holds(x, b.y()) || !b.holds(x + 1, b.y()) || b.cuts().contains(x) || b.cuts().size() == 2) {
            return NOT;
        }
        return noneFixed(state.boxes()).size() == 14 ? FULL : 0;
    }

    private State withCuts(int s, List<Integer> cuts) {
        Box b = state.boxes().get(s);
        List<Box> boxes = new ArrayList<>(state.boxes());
        boxes.set(s, new Box(b.x(), b.y(), b.x2(), b.y2(), cuts));
        return withBoxes(boxes);
    }

    private State cutThere(int s, int x) {
        List<Integer> cuts = new ArrayList<>(state.boxes().get(s).cuts());
        cuts.add(x);
        return withCuts(s, cuts);
    }

    int cut(int s, int x) {
        if (cutRefusal(s, x) != 0) {
            return cutRefusal(s, x);
        }
        become(cutThere(s, x));
        return piecesOf(state).size();
    }

    int wouldCut(int s, int x) {
        int refusal = cutRefusal(s, x);
        if (refusal == NOT || refusal == FULL) {
            return NONE;
        }
        return refusal != 0 ? refusal : solve(cutThere(s, x)).cost();
    }

    int heal(int s, int x) {
        if (!hasShape(s)) {
            return UNKNOWN;
        }
        if (!in(x, 0, 14)) {
            return OUTSIDE;
        }
        List<Integer> cuts = new ArrayList<>(state.boxes().get(s).cuts());
        if (!cuts.remove((Integer) x)) {
            return NOT;
        }
        become(withCuts(s, cuts));
        return piecesOf(state).size();
    }

    int bound(int what, int v) {
        State s = state;
        if (what == 0 && in(v, 1, 8)) {
            become(new State(s.boxes(), v, s.stitch(), s.clash(), s.fixed()));
            return s.d();
        }
        if (what == 1 && in(v, 0, 9)) {
            become(new State(s.boxes(), s.d(), v, s.clash(), s.fixed()));
            return s.stitch();
        }
        if (what == 2 && in(v, 0, 99)) {
            become(new State(s.boxes(), s.d(), s.stitch(), v, s.fixed()));
            return s.clash();
        }
        return OUTSIDE;
    }

    private State withFixed(State s, int piece, int mask) {
        List<Integer> fixed = new ArrayList<>(s.fixed());
        fixed.set(piece, mask);
        return new State(s.boxes(), s.d(), s.stitch(), s.clash(), fixed);
    }

    int fix(int piece, int mask) {
        if (!hasPiece(piece)) {
            return UNKNOWN;
        }
        if (!in(mask, -1, 1)) {
            return OUTSIDE;
        }
        if (state.fixed().get(piece) == mask) {
            return NOT;
        }
        become(withFixed(state, piece, mask));
        return best().cost();
    }

    int turn() {
        List<Box> boxes = new ArrayList<>();
        for (Box b : state.boxes()) {
            boxes.add(new Box(15 - b.x2(), b.y(), 15 - b.x(), b.y2(), b.cuts().stream().map(c -> 15 - (c + 1)).toList()));
        }
        become(withBoxes(boxes));
        return best().cost();
    }

    int drift(int n, int seed) {
        if (!in(n, 1, 20) || !in(seed, 1, 999999)) {
            return OUTSIDE;
        }
        List<Box> boxes = new ArrayList<>(state.boxes());
        long[] lot = {seed};
        for (int i = 0; i < n && !isFull(boxes); i++) {
            int[] drawn = new int[4];
            for (int k = 0; k < 4; k++) {
                lot[0] = lot[0] * 16807 % 2147483647;
                drawn[k] = (int) (lot[0] % new int[] {16, 16, 5, 3}[k]);
            }
            int x2 = Math.min(15, drawn[0] + drawn[2]);
            int y2 = Math.min(15, drawn[1] + drawn[3]);
            Box box = new Box(drawn[0], drawn[1], x2, y2, List.of());
            if (!isTaken(boxes, box, NONE)) {
                boxes.add(box);
            }
        }
        become(withBoxes(boxes));
        return boxes.size();
    }

    int undo() {
        if (earlier.isEmpty()) {
            return NOT;
        }
        state = earlier.removeLast();
        return earlier.size();
    }

    int told(int what) {
        switch (what) {
            case 0: return state.boxes().size();
            case 1: return piecesOf(state).size();
            case 2: return state.d();
            case 3: return state.stitch();
            case 4: return state.clash();
            case 5: return best().cost();
            case 6: return stitches(stitchedOf(state), best().ones());
            case 7: return clashes(closeOf(state), best().ones());
            case 8: return areaOn(piecesOf(state), best().ones(), 0);
            case 9: return areaOn(piecesOf(state), best().ones(), 1);
            case 10: return best().ways();
            case 11: return countParts(partNumbers(linkedOf(state), NONE));
            case 12: return odd();
            case 13: return shortest(closeOf(state), -1);
            case 14: return core(linkedOf(state));
            case 15: return bridges(linkedOf(state));
            case 16: return hinges(linkedOf(state));
            case 17: return pairsWith(closeOf(state), 0, true);
            case 18: return fixedSet();
            case 19: return best().ones();
            case 20: return earlier.size();
            default: return OUTSIDE;
        }
    }

    private int fixedSet() {
        int set = 0;
        for (int p = 0; p < state.fixed().size(); p++) {
            if (state.fixed().get(p) != NONE) {
                set |= 1 << p;
            }
        }
        return set;
    }

    int ofShape(int s, int what) {
        if (!hasShape(s)) {
            return UNKNOWN;
        }
        Box b = state.boxes().get(s);
        List<Integer> cuts = b.cuts().stream().sorted().toList();
        switch (what) {
            case 0: return b.x();
            case 1: return b.y();
            case 2: return b.x2();
            case 3: return b.y2();
            case 4: return b.area();
            case 5: return cuts.size();
            case 6: return piecesOf(state).stream().map(Piece::shape).toList().indexOf(s);
            case 7: return cuts.isEmpty() ? NONE : cuts.get(0);
            case 8: return cuts.size() < 2 ? NONE : cuts.get(1);
            default: return OUTSIDE;
        }
    }

    int ofPiece(int p, int what) {
        if (!hasPiece(p)) {
            return UNKNOWN;
        }
        Piece piece = piecesOf(state).get(p);
        switch (what) {
            case 0: return piece.shape();
            case 1: return piece.x();
            case 2: return piece.x2();
            case 3: return piece.area();
            case 4: return best().ones() >> p & 1;
            case 5: return state.fixed().get(p);
            case 6: return setOf(closeOf(state)[p]);
            case 7: {
                int[] part = partNumbers(linkedOf(state), NONE);
                return partSet(part, part[p]);
            }
            default: return OUTSIDE;
        }
    }

    private static int setOf(boolean[] row) {
        int set = 0;
        for (int q = 0; q < row.length; q++) {
            if (row[q]) {
                set |= 1 << q;
            }
        }
        return set;
    }

    int gap(int p, int q) {
        if (!hasPiece(p) || !hasPiece(q) || p == q) {
            return UNKNOWN;
        }
        return gapOf(piecesOf(state).get(p), piecesOf(state).get(q));
    }

    int at(int x, int y) {
        if (!in(x, 0, 15) || !in(y, 0, 15)) {
            return OUTSIDE;
        }
        List<Piece> all = piecesOf(state);
        for (int p = 0; p < all.size(); p++) {
            Piece a = all.get(p);
            if (in(x, a.x(), a.x2()) && in(y, a.y(), a.y2())) {
                return p;
            }
        }
        return NONE;
    }

    int judge(int masks) {
        int n = piecesOf(state).size();
        for (int k = 0; k < 32; k++) {
            if (k >= n && (masks >>> k & 1) == 1) {
                return OUTSIDE;
            }
        }
        return state.clash() * clashes(closeOf(state), masks) + state.stitch() * stitches(stitchedOf(state), masks);
    }

    int pair(int p, int q, boolean is) {
        if (!hasPiece(p) || !hasPiece(q) || p == q) {
            return UNKNOWN;
        }
        boolean[][] close = closeOf(state);
        boolean[][] next = stitchedOf(state);
        int least = NONE;
        for (int ones = 0; ones < 1 << close.length; ones++) {
            boolean alike = (ones >> p & 1) == (ones >> q & 1);
            if (alike == is && keepsFixed(state, ones)) {
                int cost = state.clash() * clashes(close, ones) + state.stitch() * stitches(next, ones);
                least = least == NONE ? cost : Math.min(least, cost);
            }
        }
        return least;
    }

    int keep(int i) {
        if (!in(i, 0, 1)) {
            return UNKNOWN;
        }
        images[i] = state;
        earlier.clear();
        return state.boxes().size();
    }

    int goBack(int i) {
        if (!in(i, 0, 1)) {
            return UNKNOWN;
        }
        if (images[i] == null) {
            return NOT;
        }
        state = images[i];
        earlier.clear();
        return state.boxes().size();
    }
}
