/** The sentences on the registers and promises 16 and 17, each at its edges. */
public final class RegisterEdgesTest {
    private static final int FREE = Bench.FREE;

    public static void main(String[] args) {
        Due due = new Due();
        atFirst(due);
        flatAtFirst(due);
        sixteenBits(due);
        flags(due);
        rings(due);
        greatest(due);
        fromOthers(due);
        noRegister(due);
        accumulator(due);
        down(due);
        segments(due);
        nullSegments(due);
        noSegment(due);
        changesNothing(due);
        due.finish();
    }

    private static void atFirst(Due due) {
        due.sentence("REGISTERS: the segments CS, SS, DS [...] selectors 4, 8, 8);"
                + " SP, IP (16 bits, at first 512 and 0), FLAGS (bit 0 ENABLED, bit 1 NESTED), RING (at first 0),"
                + " the task register TR (a selector, at first 0, and the linear address of its TASK STATE,"
                + " at first 1024).");
        int[] want = {4, 8, 8, 512, 0, 0, 0, 0, 1024, 0, 0, 0, 0};
        for (int k = 0; k < want.length; k++) {
            due.same("register " + k, new RingMachine().register(k), want[k]);
        }
        // COUNT is 0, so nothing that is at first there has been looked up.
        RingMachine x = new RingMachine();
        due.same("a push", x.push(9), 0);
        due.same("a read in CS", x.read(0, 510), 0);
        due.same("the accumulator", x.register(11), 9);
    }

    private static void flatAtFirst(Due due) {
        due.sentence("at first all are flat: base 0, limit 4095, level 0; CS code, the others data");
        RingMachine x = new RingMachine();
        for (int s = 0; s < 3; s++) {
            due.same("base of " + s, x.segment(s, 0), 0);
            due.same("limit of " + s, x.segment(s, 1), 4095);
            due.same("kind of " + s, x.segment(s, 2), s == 0 ? Bench.CODE : Bench.DATA);
            due.same("level of " + s, x.segment(s, 3), 0);
        }
        for (int s = 0; s < 3; s++) {
            due.same("the last word of " + s, new RingMachine().read(s, 4094), 0);
            due.same("half a word of " + s, new RingMachine().read(s, 4095), Bench.fault(s == 1 ? 12 : 13, 0));
            due.same("a write in " + s, new RingMachine().write(s, 4094, 1), s == 0 ? Bench.general(0) : 0);
        }
    }

    private static void sixteenBits(Due due) {
        due.sentence("SP, IP (16 bits, at first 512 and 0)");
        Bench b = new Bench();
        b.put(FREE, Bench.descriptor(0, 65535, Bench.DATA, 1));
        b.put(FREE + 1, Bench.descriptor(0, 65535, Bench.CODE, 1));
        b.push(Bench.select(FREE, 1), 65535, Bench.select(FREE + 1, 1), 65535);
        due.same("a return", b.x.back(), 0);
        due.same("SP", b.x.register(3), 65535);
        due.same("IP", b.x.register(4), 65535);
        due.same("a push", b.x.push(1), 0);
        due.same("SP", b.x.register(3), 65533);
        due.same("IP", b.x.register(4), 0);
        due.same("a pop", b.x.pop(), 0);
        due.same("SP", b.x.register(3), 65535);
    }

    private static void flags(Due due) {
        due.sentence("FLAGS (bit 0 ENABLED, bit 1 NESTED)");
        for (int flags = 0; flags < 4; flags++) {
            due.same("FLAGS", new Bench().toFlags(flags).x.register(5), flags);
        }
        Bench nested = new Bench().toFlags(2);
        due.same("bit 1 is NESTED: an end to no task", nested.x.end(), Bench.general(0));
        Bench enabled = new Bench().toFlags(1);
        enabled.gate(5, Bench.descriptor(900, 4, Bench.INTERRUPT, 0));
        enabled.x.trap(5);
        due.same("bit 0 is ENABLED: an interrupt gate clears it", enabled.x.register(5), 0);
    }

    private static void rings(Due due) {
        due.sentence("6 RING");
        for (int ring = 0; ring < 4; ring++) {
            due.same("RING", new Bench().toRing(ring).x.register(6), ring);
        }
    }

    /** A task that has in every word the greatest number that is taken. */
    private static void greatest(Due due) {
        due.sentence("Of the registers: 0 CS, 1 SS, 2 DS (selectors), 3 SP, 4 IP, 5 FLAGS, 6 RING, 7 TR, 8 TASK STATE,"
                + " 9 DIRECTORY, 10 the FAULT ADDRESS, 11 the accumulator, 12 1 if the machine is down.");
        Bench b = new Bench();
        b.put(FREE, Bench.descriptor(1500, 0, Bench.TASK, 3));
        b.put(FREE + 1, Bench.descriptor(0, 65535, Bench.DATA, 3));
        b.taskState(1500, 65534, 65535, 65534, Bench.code(3), Bench.select(FREE + 1, 3), Bench.data(3), 65535, 65535);
        due.same("a jump", b.x.far(Bench.select(FREE, 3), 0, false), 0);
        due.same("a pop", b.x.pop(), 0);
        int[] want = {Bench.code(3), Bench.select(FREE + 1, 3), Bench.data(3), 0, 65535, 3, 3, 4 * FREE, 1500, 31, 0,
            65535, 0};
        for (int k = 0; k < want.length; k++) {
            due.same("register " + k, b.x.register(k), want[k]);
        }
    }

    /** Registers 9 and 10 are told apart from their neighbours. */
    private static void fromOthers(Due due) {
        due.sentence("9 DIRECTORY, 10 the FAULT ADDRESS, 11 the accumulator, 12 1 if the machine is down.");
        RingMachine x = new RingMachine();
        x.write(2, 600, 77);
        x.read(2, 600);
        x.pages(17, true);
        x.read(2, 4094);
        due.same("DIRECTORY", x.register(9), 17);
        due.same("the FAULT ADDRESS is that of the gate of vector 8", x.register(10), 64);
        due.same("the accumulator", x.register(11), 77);
        due.same("down", x.register(12), 1);
    }

    private static void noRegister(Due due) {
        due.sentence("-1 for others.");
        RingMachine x = new RingMachine();
        for (int k : new int[] {-1, -12, 13, 14, 16, 256, 65536, Integer.MIN_VALUE, Integer.MAX_VALUE}) {
            due.same("register " + k, x.register(k), -1);
        }
        RingMachine gone = Bench.down();
        due.same("register 13 when down", gone.register(13), -1);
        due.same("register -1 when down", gone.register(-1), -1);
    }

    private static void accumulator(Due due) {
        due.sentence("11 the accumulator");
        Bench b = new Bench();
        b.x.push(0x1234);
        due.same("a push leaves it", b.x.register(11), 0);
        b.x.pop();
        due.same("a pop", b.x.register(11), 0x1234);
        b.x.write(2, 700, 0x4321);
        due.same("a write leaves it", b.x.register(11), 0x1234);
        b.x.read(2, 700);
        due.same("a read", b.x.register(11), 0x4321);
        b.x.trap(3);
        b.x.end();
        b.x.far(4, 9, true);
        b.x.back();
        due.same("traps, ends, calls and returns leave it", b.x.register(11), 0x4321);
        b.x.read(2, 4095);
        b.x.load(2, 0);
        due.same("faults and loads leave it", b.x.register(11), 0x4321);
        b.put(FREE, Bench.descriptor(1500, 0, Bench.TASK, 3));
        b.taskState(1500, 0, 0, 600, 4, 8, 8, 0, 0);
        due.same("a jump to a task", b.x.far(4 * FREE, 0, false), 0);
        due.same("leaves it", b.x.register(11), 0x4321);
    }

    private static void down(Due due) {
        due.sentence("12 1 if the machine is down.");
        Bench b = new Bench();
        due.same("not at first", b.x.register(12), 0);
        b.x.read(2, 4095);
        due.same("not behind a fault", b.x.register(12), 0);
        b.gate(13, 0L);
        b.x.read(2, 4095);
        due.same("not behind vector 8", b.x.register(12), 0);
        b.gate(8, 0L);
        b.x.read(2, 4095);
        due.same("behind a fault that can't be delivered", b.x.register(12), 1);
        b.gate(8, Bench.descriptor(808, 4, Bench.TRAP, 3));
        b.x.read(2, 0);
        due.same("for good", b.x.register(12), 1);
    }

    private static void segments(Due due) {
        due.sentence("Of segment s (0 CS, 1 SS, 2 DS): what = 0 base, 1 limit, 2 kind, 3 level");
        Bench b = new Bench();
        b.put(FREE, Bench.descriptor(65535, 1, Bench.CONFORMING, 0));
        b.put(FREE + 1, Bench.descriptor(65534, 65533, Bench.DATA, 0));
        b.put(FREE + 2, Bench.descriptor(1, 65535, Bench.READ_ONLY, 3));
        b.x.load(1, Bench.select(FREE + 1, 0));
        b.x.load(2, Bench.select(FREE + 2, 3));
        b.x.far(4 * FREE, 1, false);
        due.same("CS", b.held(0), "65535 1 2 0");
        due.same("SS", b.held(1), "65534 65533 4 0");
        due.same("DS", b.held(2), "1 65535 3 3");
    }

    private static void nullSegments(Due due) {
        due.sentence("(0 for all when it is NULL)");
        for (int selector = 0; selector < 4; selector++) {
            Bench b = new Bench();
            b.x.load(2, Bench.select(8, 3));
            due.same("DS", b.held(2), "0 4095 4 3");
            b.x.load(2, selector);
            due.same("DS that is " + selector, b.held(2), "0 0 0 0");
        }
        // CS and SS are NULL when a switch to a task without them has brought the machine down.
        for (int s = 0; s < 2; s++) {
            RingMachine x = new RingMachine();
            x.tables(256, 3, 512);
            x.fill(264, Bench.descriptor(1200, 0, Bench.TASK, 0));
            x.fill(272, Bench.descriptor(7, 4095, Bench.CODE, 3));
            x.poke(1220, s == 0 ? 0 : 8);
            due.same("a jump to a task without segment " + s, x.far(4, 0, false), Bench.fault(10, 0));
            due.same("down", x.register(12), 1);
            due.same("its selector", x.register(s), 0);
            for (int what = 0; what < 4; what++) {
                due.same("segment " + s + ", " + what, x.segment(s, what), 0);
            }
        }
    }

    private static void noSegment(Due due) {
        due.sentence("(0 for all when it is NULL). -1 for others.");
        RingMachine x = new RingMachine();
        int[] wrong = {-1, -2, 4, 256, 65536, Integer.MIN_VALUE, Integer.MAX_VALUE};
        for (int n : wrong) {
            for (int i = 0; i < 4; i++) {
                due.same("segment " + n + ", " + i, x.segment(n, i), -1);
                due.same("segment " + i + ", " + n, x.segment(i, n), -1);
            }
        }
        for (int what = 0; what < 4; what++) {
            due.same("segment 3, " + what, x.segment(3, what), -1);
        }
        x.load(2, 0);
        due.same("segment 2, 4 when it is NULL", x.segment(2, 4), -1);
        due.same("segment 2, -1 when it is NULL", x.segment(2, -1), -1);
        due.same("segment 3, 0 when down", Bench.down().segment(3, 0), -1);
    }

    private static void changesNothing(Due due) {
        due.sentence("Nothing is promised beyond the answers and state changes described above");
        Bench b = new Bench();
        String before = b.state() + b.held(0) + b.held(1) + b.held(2);
        b.x.register(12);
        b.x.register(13);
        b.x.segment(3, 4);
        b.x.peek(9);
        b.x.peek(-1);
        due.same("asking changes nothing", b.state() + b.held(0) + b.held(1) + b.held(2), before);
        b.x.poke(2048, 1);
        b.x.fill(3, 1);
        b.x.tables(0, 33, 0);
        due.same("nor do refused calls", b.state() + b.held(0) + b.held(1) + b.held(2), before);
    }
}
