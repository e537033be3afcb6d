/** Promise 15: end, as a return (TaskTest has the ends of tasks). */
public final class EndTest {
    private static final int FREE = Bench.FREE;

    public static void main(String[] args) {
        Due due = new Due();
        sameRing(due);
        outwards(due);
        flags(due);
        afterTrap(due);
        afterFault(due);
        refused(due);
        whenDown(due);
        due.finish();
    }

    private static void sameRing(Due due) {
        Bench b = new Bench();
        b.push(99, 1, 4, 70);
        due.same("an end", b.x.end(), 0);
        due.same("registers", b.state(), "4 8 8 510 70 1 0");
    }

    private static void outwards(Due due) {
        Bench b = new Bench();
        b.push(Bench.data(2), 650, 1, Bench.code(2), 70);
        due.same("an end outwards", b.x.end(), 0);
        due.same("registers", b.state(), Bench.code(2) + " " + Bench.data(2) + " 0 650 70 1 2");
    }

    private static void flags(Due due) {
        for (int flags : new int[] {0, 1, 2, 3, 4, 7, 65532, 65535}) {
            Bench b = new Bench();
            b.push(flags, 4, 70);
            due.same("an end with FLAGS " + flags, b.x.end(), 0);
            due.same("FLAGS", b.x.register(5), flags & 3);
        }
    }

    private static void afterTrap(Due due) {
        Bench b = new Bench().toRing(3);
        b.gate(5, Bench.descriptor(900, Bench.code(0), Bench.INTERRUPT, 3));
        String state = b.state();
        due.same("a trap", b.x.trap(5), 0);
        due.same("its end", b.x.end(), 0);
        due.same("registers are as ahead, but for IP", b.state(), state.replace(" 40 ", " 41 "));
    }

    private static void afterFault(Due due) {
        Bench b = new Bench().toRing(3);
        String state = b.state();
        due.same("a fault", b.x.load(2, 4), Bench.general(4));
        due.same("its code is popped", b.x.pop(), 0);
        due.same("the accumulator", b.x.register(11), 4);
        due.same("its end", b.x.end(), 0);
        due.same("registers are as ahead", b.state(), state);
    }

    private static void refused(Due due) {
        Bench b = new Bench();
        b.push(1, 3, 70);
        due.same("an end to NULL", b.x.end(), Bench.general(0));
        due.same("FLAGS are as before", b.x.register(5), 0);
        due.same("SP", b.x.register(3), 506 - 8);
        b.push(1, 4 * Bench.COUNT, 70);
        due.same("an end beyond COUNT", b.x.end(), Bench.general(4 * Bench.COUNT));
        b.put(FREE, Bench.absent(Bench.descriptor(0, 4095, Bench.CODE, 0)));
        b.push(1, 4 * FREE, 70);
        due.same("an end to code that is not present", b.x.end(), Bench.fault(11, 4 * FREE));
        Bench inner = new Bench().toRing(2);
        inner.push(1, Bench.code(1), 70);
        due.same("an end inwards", inner.x.end(), Bench.general(Bench.code(1) & ~3));
        Bench few = new Bench();
        few.put(FREE, Bench.descriptor(0, 511, Bench.DATA, 0));
        few.x.load(1, 4 * FREE);
        few.push(0, 70);
        due.same("an end without FLAGS, to NULL", few.x.end(), Bench.fault(12, 0));
    }

    private static void whenDown(Due due) {
        due.same("end when down", Bench.down().end(), -1);
    }
}
