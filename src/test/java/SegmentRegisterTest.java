/** Promises 16 and 17: register and segment. */
public final class SegmentRegisterTest {
    public static void main(String[] args) {
        Due due = new Due();
        registers(due);
        others(due);
        segments(due);
        whenDown(due);
        due.finish();
    }

    private static void registers(Due due) {
        Bench b = new Bench();
        b.put(Bench.FREE, Bench.descriptor(1200, 99, Bench.TASK, 0));
        b.taskState(1200, 50, 1, 700, Bench.code(3), Bench.data(3), Bench.data(3), 3, 33);
        b.x.far(4 * Bench.FREE, 0, true);
        b.x.push(99);
        b.x.pop();
        int[] want = {Bench.code(3), Bench.data(3), Bench.data(3), 700, 52, 3, 3, 4 * Bench.FREE, 1200, 1, 0, 99, 0};
        for (int k = 0; k < want.length; k++) {
            due.same("register " + k, b.x.register(k), want[k]);
        }
        b.x.pages(2, true);
        due.same("a read without pages", b.x.read(2, 77), Bench.fault(14, 4));
        due.same("the fault address is that of the gate of vector 8", b.x.register(10), Bench.VECTORS + 64);
        due.same("down", b.x.register(12), 1);
    }

    private static void others(Due due) {
        Bench b = new Bench();
        for (int k : new int[] {-1, 13, Integer.MIN_VALUE, Integer.MAX_VALUE}) {
            due.same("register " + k, b.x.register(k), -1);
        }
        for (int s : new int[] {-1, 3, Integer.MIN_VALUE, Integer.MAX_VALUE}) {
            due.same("segment " + s, b.x.segment(s, 1), -1);
        }
        for (int what : new int[] {-1, 4, Integer.MIN_VALUE, Integer.MAX_VALUE}) {
            for (int s = 0; s < 3; s++) {
                due.same("segment " + s + ", " + what, b.x.segment(s, what), -1);
            }
        }
        b.x.load(2, 0);
        due.same("segment 2, 4 when NULL", b.x.segment(2, 4), -1);
    }

    private static void segments(Due due) {
        Bench b = new Bench();
        b.put(Bench.FREE, Bench.descriptor(65535, 65534, Bench.DATA, 3));
        b.x.load(2, Bench.select(Bench.FREE, 3));
        due.same("DS", b.held(2), "65535 65534 4 3");
        b.put(Bench.FREE, Bench.descriptor(1, 2, Bench.READ_ONLY, 0));
        due.same("DS when its descriptor has changed", b.held(2), "65535 65534 4 3");
        b.x.load(2, 3);
        due.same("DS when NULL", b.held(2), "0 0 0 0");
        due.same("its selector", b.x.register(2), 3);
        b.toRing(2);
        due.same("CS in ring 2", b.held(0), "0 4095 1 2");
        due.same("SS in ring 2", b.held(1), "0 4095 4 2");
    }

    private static void whenDown(Due due) {
        RingMachine x = Bench.down();
        due.same("register 12 when down", x.register(12), 1);
        due.same("register 3 when down", x.register(3), 512);
        due.same("segment when down", x.segment(1, 1), 4095);
    }
}
