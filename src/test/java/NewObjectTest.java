/** Promise 1: a new object. */
public final class NewObjectTest {
    public static void main(String[] args) {
        Due due = new Due();
        registers(due);
        segments(due);
        memory(due);
        tables(due);
        due.finish();
    }

    private static void registers(Due due) {
        RingMachine x = new RingMachine();
        int[] want = {4, 8, 8, 512, 0, 0, 0, 0, 1024, 0, 0, 0, 0};
        for (int k = 0; k < want.length; k++) {
            due.same("register " + k + " of a new object", x.register(k), want[k]);
        }
    }

    private static void segments(Due due) {
        RingMachine x = new RingMachine();
        int[][] want = {{0, 4095, 1, 0}, {0, 4095, 4, 0}, {0, 4095, 4, 0}};
        for (int s = 0; s < 3; s++) {
            for (int what = 0; what < 4; what++) {
                due.same("segment " + s + ", " + what + " of a new object", x.segment(s, what), want[s][what]);
            }
        }
    }

    private static void memory(Due due) {
        RingMachine x = new RingMachine();
        int sum = 0;
        for (int address = 0; address < 2048; address++) {
            // An object is good for 512 calls.
            if (address % 500 == 0) {
                x = new RingMachine();
            }
            sum += x.peek(address);
        }
        due.same("the sum of all bytes", sum, 0);
        due.same("a write with pages off", x.write(2, 600, 0x1234), 0);
        due.same("where it went", x.peek(600) + 256 * x.peek(601), 0x1234);
    }

    private static void tables(Due due) {
        due.same("COUNT is 0", new RingMachine().load(2, 4), Bench.general(4));
        RingMachine x = new RingMachine();
        x.fill(8 * 3, Bench.descriptor(0, 0, Bench.TRAP, 0));
        due.same("VECTORS is 0, so the gate at 24 is read, whose target is NULL", x.trap(3), Bench.general(0));
        RingMachine one = new RingMachine();
        RingMachine other = new RingMachine();
        one.poke(5, 7);
        one.push(3);
        due.same("objects share no memory", other.peek(5), 0);
        due.same("objects share no registers", other.register(3), 512);
    }
}
