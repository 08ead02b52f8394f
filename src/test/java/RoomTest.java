import com.sun.management.ThreadMXBean;
import java.lang.management.ManagementFactory;

/** All calls of a run live in one room, so the dearest calls must not make objects again and again. */
public final class RoomTest {
    private static final long MOST_BYTES = 200_000;
    private static final String DEAR = "g4,3;o2;t3;r1,0,1,1,0;r0,0,0;r2,1,1,0;r1,2,0,0;r2,0,1,0,2;r1,2,2;r0,0,1,2,1;"
            + "r2,2,0;r2,2,0,2,0;r0,2,1;r2,2,1,2,2;r2,1,1,0,0;r1,2,2,1;r0,1,0,0,1;r0,1,1,2,0;r1,1,0,0,1;";

    private RoomTest() {
    }

    public static void main(String[] args) {
        ThreadMXBean bean = (ThreadMXBean) ManagementFactory.getThreadMXBean();
        round(Check.configured(DEAR));
        long before = bean.getCurrentThreadAllocatedBytes();
        PushdownGameSolver x = new PushdownGameSolver();
        for (int i = 0; i < DEAR.length(); i++) {
            x.append(DEAR.charAt(i));
        }
        x.configure();
        for (int i = 0; i < 22; i++) {
            round(x);
        }
        long made = bean.getCurrentThreadAllocatedBytes() - before;
        Check.holds("512 calls make " + made + " bytes, at most " + MOST_BYTES, made <= MOST_BYTES);
        Check.end();
    }

    private static void round(PushdownGameSolver x) {
        x.firstError();
        x.configure();
        x.setOwner(0, 1);
        x.place(1);
        x.push(0);
        x.undo();
        x.push(2);
        x.winner();
        x.winningRound();
        x.distance();
        x.bestRule();
        x.rounds();
        x.forcingSetCount(0, 0);
        x.forcingSet(0, 0, 0);
        x.winningStacks(0, 39);
        x.removeRule(3);
    }
}
