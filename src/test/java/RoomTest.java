import java.lang.management.ManagementFactory;

/** All calls of one run share one room, so that proving and checking must make nothing. */
public final class RoomTest {
    private static final int CALLS = 512;

    private RoomTest() {
    }

    public static void main(String[] args) {
        Due due = new Due();
        FoldedProof range = new FoldedProof();
        range.shape(0, 8, 4);
        range.spoil(2, 3, 1);
        FoldedProof circuit = new FoldedProof();
        circuit.shape(1, 8, 4);
        callAll(range, circuit);
        long before = allocated();
        for (int k = 0; k < CALLS; k++) {
            callAll(range, circuit);
        }
        long each = (allocated() - before) / CALLS;
        System.out.println(each + " bytes for each round of calls");
        due.yes("a round of calls makes nothing", each < 16);

        FoldedProof[] kept = new FoldedProof[CALLS];
        before = allocated();
        for (int k = 0; k < CALLS; k++) {
            kept[k] = new FoldedProof();
        }
        long made = (allocated() - before) / CALLS;
        System.out.println(made + " bytes for each new object");
        due.yes("a new object is small", made > 0 && made < 24000);
        due.end();
    }

    private static void callAll(FoldedProof range, FoldedProof circuit) {
        range.type('a');
        range.party(1, 77, 5, 6);
        range.prove();
        range.verify();
        range.challenge(3);
        circuit.multiply(3, 4, 5);
        circuit.weigh(11, 2, 7, 5);
        circuit.prove();
        circuit.verify();
        circuit.holds();
        circuit.claim(0, 4);
    }

    private static long allocated() {
        com.sun.management.ThreadMXBean bean = (com.sun.management.ThreadMXBean) ManagementFactory.getThreadMXBean();
        return bean.getCurrentThreadAllocatedBytes();
    }
}
