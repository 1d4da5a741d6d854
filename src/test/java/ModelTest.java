/** Runs of calls by lots, on the program and on the model: all answers are to be the same. */
public final class ModelTest {
    private static final int RUNS = 220;
    private static final int[] WILD = {-1000000001, Integer.MIN_VALUE, Integer.MAX_VALUE, -1, -2, 16, 17, 31, 32, 33, 64, -16, 100, 1 << 30};

    private final TwoMasks program = new TwoMasks();
    private final Model model = new Model();
    private final StringBuilder calls = new StringBuilder();
    private long lot;
    private int wrong;

    private ModelTest(long seed) {
        lot = seed * 7919 + 12345;
    }

    private int upTo(int last) {
        lot = lot * 6364136223846793005L + 1442695040888963407L;
        return (int) ((lot >>> 33) % (last + 1));
    }

    /** Mostly within the bounds, now and then beside them or far off. */
    private int from(int low, int high) {
        int kind = upTo(40);
        if (kind == 0) {
            return WILD[upTo(WILD.length - 1)];
        }
        if (kind == 1) {
            return upTo(1) == 0 ? low - 1 : high + 1;
        }
        return low + upTo(high - low);
    }

    private int aShape() {
        return from(0, Math.max(0, model.told(0) - 1));
    }

    private int aPiece() {
        return from(0, Math.max(0, model.told(1) - 1));
    }

    private void due(String call, int got, int want) {
        if (got != want) {
            wrong++;
            System.out.println(calls + call + " answered " + got + ", due is " + want);
        }
    }

    private void made(String call, int got, int want) {
        due(call, got, want);
        calls.append(call).append("=").append(want).append("; ");
    }

    private static String text(String name, int... values) {
        StringBuilder call = new StringBuilder(name).append("(");
        for (int i = 0; i < values.length; i++) {
            call.append(i == 0 ? "" : ", ").append(values[i]);
        }
        return call.append(")").toString();
    }

    private void changeShapes(int kind) {
        switch (kind) {
            case 0: {
                int x = from(0, 15);
                int y = from(0, 15);
                int x2 = upTo(9) == 0 ? from(0, 15) : x + upTo(5);
                int y2 = upTo(9) == 0 ? from(0, 15) : y + upTo(2);
                made(text("shape", x, y, x2, y2), program.shape(x, y, x2, y2), model.shape(x, y, x2, y2));
                break;
            }
            case 1: {
                int s = aShape();
                made(text("drop", s), program.drop(s), model.drop(s));
                break;
            }
            case 2: {
                int s = aShape();
                int dx = upTo(3) == 0 ? from(-15, 15) : upTo(4) - 2;
                int dy = upTo(3) == 0 ? from(-15, 15) : upTo(4) - 2;
                made(text("move", s, dx, dy), program.move(s, dx, dy), model.move(s, dx, dy));
                break;
            }
            case 3: {
                int s = aShape();
                int x = placeIn(s);
                made(text("cut", s, x), program.cut(s, x), model.cut(s, x));
                break;
            }
            case 4: {
                int s = aShape();
                int known = model.ofShape(s, 7 + upTo(1));
                int x = upTo(2) == 0 ? from(0, 14) : known;
                made(text("heal", s, x), program.heal(s, x), model.heal(s, x));
                break;
            }
            default: {
                int n = from(1, 20);
                int seed = upTo(9) == 0 ? from(1, 999999) : 1 + upTo(999998);
                made(text("drift", n, seed), program.drift(n, seed), model.drift(n, seed));
                break;
            }
        }
    }

    private int placeIn(int s) {
        int left = model.ofShape(s, 0);
        int right = model.ofShape(s, 2);
        return left < 0 || upTo(6) == 0 ? from(0, 14) : left + upTo(right - left);
    }

    private void changeOther(int kind) {
        switch (kind) {
            case 0: {
                int what = from(0, 2);
                int v = what == 0 ? from(1, 8) : what == 1 ? from(0, 9) : upTo(2) == 0 ? upTo(3) : from(0, 99);
                made(text("bound", what, v), program.bound(what, v), model.bound(what, v));
                break;
            }
            case 1: {
                int p = aPiece();
                int mask = from(-1, 1);
                made(text("fix", p, mask), program.fix(p, mask), model.fix(p, mask));
                break;
            }
            case 2:
                made("turn()", program.turn(), model.turn());
                break;
            case 3:
                made("undo()", program.undo(), model.undo());
                break;
            case 4: {
                int i = from(0, 1);
                made(text("keep", i), program.keep(i), model.keep(i));
                break;
            }
            default: {
                int i = from(0, 1);
                made(text("goBack", i), program.goBack(i), model.goBack(i));
                break;
            }
        }
    }

    private void change() {
        int kind = upTo(99);
        if (kind < 22) {
            changeShapes(0);
        } else if (kind < 25) {
            changeShapes(1);
        } else if (kind < 35) {
            changeShapes(2);
        } else if (kind < 55) {
            changeShapes(3);
        } else if (kind < 58) {
            changeShapes(4);
        } else if (kind < 61) {
            changeShapes(5);
        } else if (kind < 70) {
            changeOther(0);
        } else if (kind < 84) {
            changeOther(1);
        } else if (kind < 88) {
            changeOther(2);
        } else if (kind < 96) {
            changeOther(3);
        } else {
            changeOther(kind < 98 ? 4 : 5);
        }
    }

    private void askAll() {
        for (int what = -1; what <= 21; what++) {
            due(text("told", what), program.told(what), model.told(what));
        }
        for (int s = -1; s <= model.told(0); s++) {
            for (int what = -1; what <= 9; what++) {
                due(text("ofShape", s, what), program.ofShape(s, what), model.ofShape(s, what));
            }
        }
        for (int p = -1; p <= model.told(1); p++) {
            for (int what = -1; what <= 8; what++) {
                due(text("ofPiece", p, what), program.ofPiece(p, what), model.ofPiece(p, what));
            }
            int q = aPiece();
            due(text("gap", p, q), program.gap(p, q), model.gap(p, q));
        }
        int x = from(0, 15);
        int y = from(0, 15);
        due(text("at", x, y), program.at(x, y), model.at(x, y));
    }

    private void askWould() {
        int masks = from(0, (1 << model.told(1)) - 1);
        due(text("judge", masks), program.judge(masks), model.judge(masks));
        int s = aShape();
        int x = placeIn(s);
        due(text("wouldCut", s, x), program.wouldCut(s, x), model.wouldCut(s, x));
        int dx = from(-3, 3);
        int dy = from(-3, 3);
        due(text("wouldMove", s, dx, dy), program.wouldMove(s, dx, dy), model.wouldMove(s, dx, dy));
        int p = aPiece();
        int q = aPiece();
        due(text("pair", p, q, 1), program.pair(p, q, true), model.pair(p, q, true));
        due(text("pair", p, q, 0), program.pair(p, q, false), model.pair(p, q, false));
    }

    private int run(int changes) {
        askAll();
        askWould();
        for (int i = 0; i < changes && wrong < 5; i++) {
            change();
            if (upTo(3) == 0) {
                askAll();
            }
            askWould();
        }
        return wrong;
    }

    public static void main(String[] args) {
        int runs = args.length > 0 ? Integer.parseInt(args[0]) : RUNS;
        int first = args.length > 1 ? Integer.parseInt(args[1]) : 1;
        int wrong = 0;
        for (int seed = first; seed < first + runs && wrong < 20; seed++) {
            wrong += new ModelTest(seed).run(15 + seed % 40);
        }
        if (wrong != 0) {
            System.exit(1);
        }
    }
}
