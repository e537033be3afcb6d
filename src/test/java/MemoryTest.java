/** Promises 2 to 4: poke, peek and fill. */
public final class MemoryTest {
    public static void main(String[] args) {
        Due due = new Due();
        poke(due);
        peek(due);
        fill(due);
        whenDown(due);
        due.finish();
    }

    private static void poke(Due due) {
        RingMachine x = new RingMachine();
        due.yes("poke at 0", x.poke(0, 17));
        due.yes("poke at 2047", x.poke(2047, 256 + 18));
        due.yes("poke of -1", x.poke(100, -1));
        due.same("byte 0", x.peek(0), 17);
        due.same("byte 2047 is mod 256", x.peek(2047), 18);
        due.same("-1 is 255", x.peek(100), 255);
        due.same("the byte beside it", x.peek(101), 0);
        for (int address : new int[] {-1, 2048, 4096, Integer.MIN_VALUE, Integer.MAX_VALUE}) {
            due.no("poke at " + address, x.poke(address, 1));
        }
        due.same("byte 0 after wrong pokes", x.peek(0), 17);
        due.same("byte 2047 after wrong pokes", x.peek(2047), 18);
    }

    private static void peek(Due due) {
        RingMachine x = new RingMachine();
        x.poke(2047, 255);
        due.same("peek at 2047", x.peek(2047), 255);
        for (int address : new int[] {-1, 2048, 4095, Integer.MIN_VALUE, Integer.MAX_VALUE}) {
            due.same("peek at " + address, x.peek(address), -1);
        }
    }

    private static void fill(Due due) {
        RingMachine x = new RingMachine();
        due.yes("fill at 16", x.fill(16, 0x8877665544332211L));
        for (int i = 0; i < 8; i++) {
            due.same("byte " + i + " of a fill", x.peek(16 + i), 0x11 * (i + 1));
        }
        due.same("the byte ahead", x.peek(15), 0);
        due.same("the byte behind", x.peek(24), 0);
        due.yes("fill at 0", x.fill(0, 1));
        due.yes("fill at 2040", x.fill(2040, -1L));
        due.same("the last byte", x.peek(2047), 255);
        for (int address : new int[] {-8, -1, 1, 4, 12, 2044, 2047, 2048, 4096, Integer.MIN_VALUE, Integer.MAX_VALUE}) {
            due.no("fill at " + address, x.fill(address, 0x0909090909090909L));
        }
        due.same("byte 4 after wrong fills", x.peek(4), 0);
        due.same("byte 16 after wrong fills", x.peek(16), 0x11);
        due.same("byte 2044 after wrong fills", x.peek(2044), 255);
    }

    private static void whenDown(Due due) {
        RingMachine x = Bench.down();
        due.yes("poke when down", x.poke(9, 4));
        due.same("peek when down", x.peek(9), 4);
        due.yes("fill when down", x.fill(8, 5));
        due.same("peek behind fill when down", x.peek(8), 5);
    }
}
