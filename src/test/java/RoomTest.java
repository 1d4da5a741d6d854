import com.sun.management.ThreadMXBean;
import java.lang.management.ManagementFactory;

/** The room that a run takes: little for an object, nothing for its calls, however many there are. */
public final class RoomTest {
    private static final int RUNS = 40;
    private static final int CALLS = 500;
    private static final long MOST_BYTES_OF_ONE = 16384;
    /** Less than a call could take that makes one object, far more than the measuring itself takes. */
    private static final long MOST_BYTES_OF_CALLS = RUNS * CALLS * 2L;

    private static int kept = 0;

    private static long bytesSoFar() {
        return ((ThreadMXBean) ManagementFactory.getThreadMXBean()).getCurrentThreadAllocatedBytes();
    }

    /** All kinds of calls in turn, on a field that becomes full of pieces. */
    private static void callAll(TwoMasks m, int seed) {
        for (int i = 0; i < CALLS; i++) {
            kept ^= i % 3 == 0 ? change(m, i / 3, seed + i) : ask(m, i / 3 * 2 + i % 3, seed + i);
        }
    }

    private static int change(TwoMasks m, int kind, int lot) {
        switch (kind % 16) {
            case 0: return m.drift(20, lot);
            case 1: return m.cut(lot % 10, m.ofShape(lot % 10, 0));
            case 2: return m.bound(0, 1 + lot % 8);
            case 3: return m.fix(lot % 14, lot % 2);
            case 4: return m.move(lot % 10, lot % 3 - 1, lot % 5 - 2);
            case 5: return m.keep(lot % 2);
            case 6: return m.bound(1, lot % 10);
            case 7: return m.drop(lot % 10);
            case 8: return m.shape(lot % 16, lot % 13, lot % 16, lot % 13);
            case 9: return m.heal(lot % 10, m.ofShape(lot % 10, 7));
            case 10: return m.undo();
            case 11: return m.turn();
            case 12: return m.bound(2, lot % 100);
            case 13: return m.goBack(lot % 2);
            case 14: return m.shape(15, 15, 0, 0);
            default: return m.fix(lot % 14, TwoMasks.NONE);
        }
    }

    private static int ask(TwoMasks m, int kind, int lot) {
        switch (kind % 9) {
            case 0: return m.told(lot % 22);
            case 1: return m.ofShape(lot % 11, lot % 10);
            case 2: return m.ofPiece(lot % 15, lot % 9);
            case 3: return m.gap(lot % 14, lot % 5);
            case 4: return m.at(lot % 17, lot % 16);
            case 5: return m.judge(lot % 1024);
            case 6: return m.wouldCut(lot % 10, lot % 15);
            case 7: return m.wouldMove(lot % 10, lot % 3 - 1, 1);
            default: return m.pair(lot % 14, lot % 3, lot % 2 == 0);
        }
    }

    private static void atMost(String what, long got, long most) {
        if (got > most) {
            System.out.println(what + " takes " + got + " bytes, " + most + " at most are due");
            System.exit(1);
        }
    }

    public static void main(String[] args) {
        callAll(new TwoMasks(), 1);
        TwoMasks[] made = new TwoMasks[RUNS];
        long ahead = bytesSoFar();
        for (int i = 0; i < RUNS; i++) {
            made[i] = new TwoMasks();
        }
        long between = bytesSoFar();
        for (int i = 0; i < RUNS; i++) {
            callAll(made[i], 1000 * i + 7);
        }
        long behind = bytesSoFar();
        atMost("an object", (between - ahead) / RUNS, MOST_BYTES_OF_ONE);
        atMost(RUNS * CALLS + " calls (" + kept + ")", behind - between, MOST_BYTES_OF_CALLS);
    }
}
