/** Promise 14: trap. */
public final class TrapTest {
    private static final int FREE = Bench.FREE;

    public static void main(String[] args) {
        Due due = new Due();
        sameRing(due);
        inwards(due);
        conforming(due);
        vectors(due);
        gates(due);
        levels(due);
        targets(due);
        flags(due);
        late(due);
        whenDown(due);
        due.finish();
    }

    private static void sameRing(Due due) {
        for (int v = 0; v < 16; v++) {
            Bench b = new Bench();
            b.x.push(0);
            b.x.pop();
            due.same("trap " + v, b.x.trap(v), 0);
            due.same("registers", b.state(), "4 8 8 506 " + (800 + v) + " 0 0");
            due.same("the pushed FLAGS", b.word(510), 0);
            due.same("the pushed CS", b.word(508), 4);
            due.same("the pushed IP is the next", b.word(506), 3);
        }
    }

    private static void inwards(Due due) {
        for (int ring = 1; ring < 4; ring++) {
            for (int level = 0; level < ring; level++) {
                Bench b = new Bench().toRing(ring);
                b.gate(3, Bench.descriptor(900, Bench.code(level), Bench.TRAP, 3) | 7L << 48);
                due.same("a trap from ring " + ring + " to " + level, b.x.trap(3), 0);
                int sp = Bench.innerSp(level);
                due.same("registers", b.state(), Bench.code(level) + " " + Bench.data(level) + " 0 " + (sp - 10)
                        + " 900 0 " + level);
                int[] want = {Bench.data(ring), 700, 0, Bench.code(ring), 41};
                for (int i = 0; i < want.length; i++) {
                    due.same("pushed word " + i, b.word(sp - 2 - 2 * i), want[i]);
                }
            }
        }
    }

    private static void conforming(Due due) {
        Bench b = new Bench().toRing(3);
        b.put(FREE, Bench.descriptor(0, 4095, Bench.CONFORMING, 0));
        b.gate(3, Bench.descriptor(900, 4 * FREE, Bench.TRAP, 3));
        due.same("a trap to conforming code", b.x.trap(3), 0);
        due.same("registers", b.state(), Bench.select(FREE, 3) + " " + Bench.data(3) + " 0 694 900 0 3");
    }

    private static void vectors(Due due) {
        int[][] cases = {{16, 16}, {17, 17}, {255, 255}, {-1, 255}, {256 + 200, 200}, {Integer.MIN_VALUE + 99, 99}};
        for (int[] c : cases) {
            Bench b = new Bench();
            due.same("trap " + c[0], b.x.trap(c[0]), Bench.general(4 * c[1] + 2));
            due.same("the code pushed", b.word(b.x.register(3)), 4 * c[1] + 2);
            due.same("the IP pushed is that of the trap", b.word(b.x.register(3) + 2), 0);
        }
        for (int n : new int[] {256 + 5, -251, 5 - 65536}) {
            Bench b = new Bench();
            due.same("trap " + n, b.x.trap(n), 0);
            due.same("IP", b.x.register(4), 805);
        }
        Bench b = new Bench();
        b.x.fill(Bench.VECTORS + 8 * 16, Bench.descriptor(900, 4, Bench.TRAP, 3));
        due.same("a gate of vector 16 is not looked at", b.x.trap(16), Bench.general(66));
    }

    private static void gates(Due due) {
        for (int kind = 0; kind < 16; kind++) {
            Bench b = new Bench();
            b.gate(3, Bench.descriptor(900, 4, kind, 3));
            due.same("a gate of kind " + kind, b.x.trap(3), kind == 8 || kind == 9 ? 0 : Bench.general(14));
        }
        Bench b = new Bench();
        b.gate(3, Bench.absent(Bench.descriptor(900, 4, Bench.TRAP, 3)));
        due.same("a gate that is not present", b.x.trap(3), Bench.fault(11, 14));
        b.gate(3, Bench.absent(Bench.descriptor(900, 4, Bench.GATE, 3)));
        due.same("a gate of a wrong kind that is not present", b.x.trap(3), Bench.general(14));
    }

    private static void levels(Due due) {
        for (int ring = 0; ring < 4; ring++) {
            for (int level = 0; level < 4; level++) {
                Bench b = new Bench().toRing(ring);
                b.gate(3, Bench.descriptor(900, 4, Bench.TRAP, level));
                due.same("a gate of level " + level + " in ring " + ring, b.x.trap(3),
                        level >= ring ? 0 : Bench.general(14));
            }
        }
        Bench b = new Bench().toRing(3);
        b.gate(3, Bench.absent(Bench.descriptor(900, 4, Bench.TRAP, 2)));
        due.same("the level goes ahead of being present", b.x.trap(3), Bench.general(14));
    }

    private static void target(Due due, String what, int selector, long descriptor, int want) {
        Bench b = new Bench().toRing(1);
        b.put(0, Bench.descriptor(0, 4095, Bench.CODE, 0));
        b.put(FREE, descriptor);
        b.gate(3, Bench.descriptor(900, selector, Bench.TRAP, 3));
        due.same(what, b.x.trap(3), want);
        due.same(what + ": IP", b.x.register(4), want == 0 ? 900 : 800 + want / 65536);
    }

    private static void targets(Due due) {
        int general = Bench.general(4 * FREE);
        int selector = Bench.select(FREE, 3);
        target(due, "a target that is NULL", 2, 0L, Bench.general(0));
        target(due, "a target beyond COUNT", 4 * Bench.COUNT + 1, 0L, Bench.general(4 * Bench.COUNT));
        for (int level = 0; level < 4; level++) {
            target(due, "code of level " + level, selector, Bench.descriptor(0, 4095, Bench.CODE, level),
                    level <= 1 ? 0 : general);
            target(due, "conforming of level " + level, selector, Bench.descriptor(0, 4095, Bench.CONFORMING, level),
                    level <= 1 ? 0 : general);
            target(due, "data of level " + level, selector, Bench.descriptor(0, 4095, Bench.DATA, level), general);
        }
        target(due, "a gate", selector, Bench.callGate(4, 0, 3, 0), general);
        target(due, "a task", selector, Bench.descriptor(1200, 99, Bench.TASK, 1), general);
        target(due, "code that is not present", selector, Bench.absent(Bench.descriptor(0, 4095, Bench.CODE, 1)),
                Bench.fault(11, 4 * FREE));
        target(due, "the limit", selector, Bench.descriptor(0, 900, Bench.CODE, 1), 0);
        target(due, "beyond the limit", selector, Bench.descriptor(0, 899, Bench.CODE, 1), Bench.general(0));
    }

    private static void flags(Due due) {
        for (int kind = Bench.INTERRUPT; kind <= Bench.TRAP; kind++) {
            for (int flags = 0; flags < 4; flags++) {
                Bench b = new Bench();
                b.gate(3, Bench.descriptor(900, 4, kind, 3));
                b.push(flags, 4, 60);
                b.x.end();
                due.same("FLAGS ahead", b.x.register(5), flags);
                due.same("a trap by kind " + kind, b.x.trap(3), 0);
                due.same("FLAGS behind", b.x.register(5), kind == Bench.INTERRUPT ? 0 : flags & 1);
                due.same("the pushed FLAGS", b.word(510), flags);
            }
        }
    }

    private static void late(Due due) {
        Bench b = new Bench().toRing(3);
        b.innerStack(Bench.STATE, 1, 900, 0);
        b.gate(3, Bench.descriptor(900, Bench.code(1), Bench.TRAP, 3));
        due.same("a trap without an inner stack", b.x.trap(3), Bench.fault(10, 0));
        due.same("registers", b.state(), "4 8 0 " + (Bench.innerSp(0) - 12) + " 810 0 0");
    }

    private static void whenDown(Due due) {
        due.same("trap when down", Bench.down().trap(3), -1);
    }
}
