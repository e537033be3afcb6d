/** Promise 5: tables. */
public final class TablesTest {
    public static void main(String[] args) {
        Due due = new Due();
        counts(due);
        places(due);
        vectors(due);
        whenDown(due);
        due.finish();
    }

    private static void counts(Due due) {
        RingMachine x = new RingMachine();
        due.yes("count 32", x.tables(64, 32, 512));
        due.yes("count 0", x.tables(64, 0, 512));
        Bench b = new Bench();
        for (int count : new int[] {-1, 33, Integer.MIN_VALUE, Integer.MAX_VALUE}) {
            due.no("count " + count, b.x.tables(0, count, 0));
        }
        due.same("tables after wrong counts", b.x.load(2, Bench.data(0)), 0);
        due.same("vectors after wrong counts", b.x.trap(3), 0);
        b.put(Bench.COUNT, Bench.descriptor(0, 4095, Bench.DATA, 3));
        due.same("an index of COUNT", b.x.load(2, 4 * Bench.COUNT), Bench.general(4 * Bench.COUNT));
        b.x.tables(Bench.TABLE, Bench.COUNT + 1, Bench.VECTORS);
        due.same("an index below COUNT", b.x.load(2, 4 * Bench.COUNT), 0);
        b.put(31, Bench.descriptor(5, 4095, Bench.DATA, 3));
        b.x.tables(Bench.TABLE, 32, Bench.VECTORS);
        due.same("the last index", b.x.load(2, 4 * 31), 0);
        due.same("its base", b.x.segment(2, 0), 5);
    }

    private static void places(Due due) {
        for (int turns = -2; turns < 3; turns++) {
            Bench b = new Bench();
            b.x.fill(8, Bench.descriptor(77, 99, Bench.DATA, 0));
            due.yes("tables with another turn", b.x.tables(4096 * turns, 2, Bench.VECTORS));
            due.same("a look-up there", b.x.load(2, 4), 0);
            due.same("the base found", b.x.segment(2, 0), 77);
        }
        Bench b = new Bench();
        b.x.fill(0, Bench.descriptor(78, 99, Bench.DATA, 0));
        b.x.tables(-8, 2, Bench.VECTORS);
        due.same("a table round the end of the linear addresses", b.x.load(2, 4), 0);
        due.same("its base", b.x.segment(2, 0), 78);
        Bench high = new Bench();
        high.x.tables(2040, 3, Bench.VECTORS);
        due.same("a descriptor beyond memory is all ones", high.x.load(2, 4), Bench.general(4));
    }

    private static void vectors(Due due) {
        for (int turns = -1; turns < 2; turns++) {
            Bench b = new Bench();
            b.x.fill(24, Bench.descriptor(123, Bench.code(0), Bench.TRAP, 0));
            b.x.tables(Bench.TABLE, Bench.COUNT, 4096 * turns);
            due.same("a trap through other vectors", b.x.trap(3), 0);
            due.same("IP", b.x.register(4), 123);
        }
    }

    private static void whenDown(Due due) {
        RingMachine x = Bench.down();
        due.no("tables when down", x.tables(0, 1, 0));
    }
}
