import com.sun.management.ThreadMXBean;
import java.lang.management.ManagementFactory;

/** All calls of one run live in one room: an object stays small, and its calls make nothing. */
public final class RoomTest {
    private static final Check check = new Check("RoomTest");
    private static final ThreadMXBean bean = (ThreadMXBean) ManagementFactory.getThreadMXBean();
    private static final int MOST_BYTES_OF_AN_OBJECT = 100000;
    /** What the machine itself may take on the way, once, far below one small array a call. */
    private static final int MOST_BYTES_OF_ALL_CALLS = 4000;

    public static void main(String[] args) {
        use(new AskedRules()); // so that the classes are loaded
        long before = bytes();
        AskedRules x = new AskedRules();
        long object = bytes() - before;
        use(x);
        long calls = bytes() - before - object;
        check.due("the object is small (" + object + " bytes)", 1, object < MOST_BYTES_OF_AN_OBJECT ? 1 : 0);
        check.due("calls make nothing (" + calls + " bytes)", 1, calls < MOST_BYTES_OF_ALL_CALLS ? 1 : 0);
        check.close();
    }

    private static long bytes() {
        return bean.getThreadAllocatedBytes(Thread.currentThread().getId());
    }

    private static void use(AskedRules x) {
        for (int c = 0; c < 5; c++) {
            x.addCondition(4, 1 + c);
        }
        for (int row = 0; row < 18; row++) {
            x.addRow(0x11111 << row % 4 | 0x81421, row % 7);
        }
        for (char value : "if -,-,-,-,01>3;merge;up 3;drop 4;".toCharArray()) {
            x.type(value);
        }
        for (int round = 0; round < 10; round++) {
            x.runCommands();
            x.setCost(round % 5, 1 + round % 9);
            x.setAction(round % 3, round % 10);
            x.setAnswers(round % 3, round % 5, 15);
            x.moveUp(x.rowAt(1));
            x.mergeAll();
            x.undo();
            x.prune();
            x.undo();
            x.digest();
            for (int what = 0; what < 12; what++) {
                x.whole(what);
            }
            x.ask(round % 4);
            x.costFrom(round % 4 * 16);
            x.changedWithout(x.rowAt(0));
            x.bestAction(x.hole(0));
            x.undo();
        }
    }
}
