/** Raising and delivering faults, in the terms that all instructions lean on. */
public final class FaultTest {
    public static void main(String[] args) {
        Due due = new Due();
        delivered(due);
        gateLevel(due);
        flags(due);
        doubled(due);
        downFromAny(due);
        codeAtTheEnd(due);
        down(due);
        due.finish();
    }

    private static void delivered(Due due) {
        Bench b = new Bench();
        b.x.push(5);
        due.same("a fault", b.x.load(2, 4 * 30 + 1), Bench.general(120));
        due.same("registers", b.state(), "4 8 8 502 813 0 0");
        int[] want = {5, 0, 4, 1, 120};
        for (int i = 0; i < want.length; i++) {
            due.same("word " + i, b.word(510 - 2 * i), want[i]);
        }
        Bench outer = new Bench().toRing(3);
        outer.gate(13, Bench.descriptor(900, Bench.code(1), Bench.TRAP, 3));
        due.same("a fault in ring 3", outer.x.load(2, 4 * 30 + 1), Bench.general(120));
        int sp = Bench.innerSp(1);
        due.same("registers", outer.state(), Bench.code(1) + " " + Bench.data(1) + " 0 " + (sp - 12) + " 900 0 1");
        int[] pushed = {Bench.data(3), 700, 0, Bench.code(3), 40, 120};
        for (int i = 0; i < pushed.length; i++) {
            due.same("pushed word " + i, outer.word(sp - 2 - 2 * i), pushed[i]);
        }
    }

    private static void gateLevel(Due due) {
        Bench b = new Bench().toRing(3);
        b.gate(13, Bench.descriptor(900, Bench.code(0), Bench.INTERRUPT, 0));
        due.same("a fault", b.x.read(2, 0), Bench.general(0));
        due.same("it goes through a gate of any level", b.x.register(4), 900);
    }

    private static void flags(Due due) {
        Bench b = new Bench();
        b.gate(13, Bench.descriptor(900, Bench.code(0), Bench.INTERRUPT, 0));
        b.push(3, 4, 60);
        b.x.end();
        b.x.read(2, 4095);
        due.same("FLAGS through an interrupt gate", b.x.register(5), 0);
        due.same("the pushed FLAGS", b.word(510), 3);
    }

    /** A bench in ring 3 where vector 13 can't be delivered. */
    private static Bench without13(long gate) {
        Bench b = new Bench().toRing(3);
        b.gate(13, gate);
        return b;
    }

    private static void doubled(Due due) {
        long[] gates = {
            0L,
            Bench.descriptor(900, 4, Bench.GATE, 3),
            Bench.absent(Bench.descriptor(900, 4, Bench.TRAP, 3)),
            Bench.descriptor(900, 0, Bench.TRAP, 3),
            Bench.descriptor(900, 4 * 30, Bench.TRAP, 3),
            Bench.descriptor(900, Bench.data(0), Bench.TRAP, 3),
            Bench.descriptor(4096, 4, Bench.TRAP, 3),
        };
        for (long gate : gates) {
            Bench b = without13(gate);
            due.same("a fault whose gate is wrong", b.x.load(2, 4 * 30), Bench.general(120));
            int sp = Bench.innerSp(0);
            due.same("registers", b.state(), "4 8 0 " + (sp - 12) + " 808 0 0");
            int[] pushed = {Bench.data(3), 700, 0, Bench.code(3), 40, 0};
            for (int i = 0; i < pushed.length; i++) {
                due.same("pushed word " + i, b.word(sp - 2 - 2 * i), pushed[i]);
            }
        }
    }

    private static void downFromAny(Due due) {
        Bench b = without13(0L);
        b.gate(8, 0L);
        String state = b.state();
        due.same("a fault that can't be delivered", b.x.load(2, 4 * 30), Bench.general(120));
        due.same("down", b.x.register(12), 1);
        due.same("registers", b.state(), state);
        due.same("SS", b.held(1), "0 4095 4 3");
        Bench late = without13(0L);
        late.gate(8, Bench.descriptor(4096, 4, Bench.TRAP, 3));
        due.same("one whose double fault goes beyond the limit", late.x.load(2, 4 * 30), Bench.general(120));
        due.same("down", late.x.register(12), 1);
        due.same("registers", late.state(), state);
        due.same("SS", late.held(1), "0 4095 4 3");
        due.same("what was pushed stays", late.word(Bench.innerSp(0) - 2), Bench.data(3));
    }

    private static void codeAtTheEnd(Due due) {
        Bench b = without13(Bench.descriptor(4096, 4, Bench.TRAP, 3));
        b.gate(8, 0L);
        b.x.load(2, 4 * 30);
        int sp = Bench.innerSp(0);
        due.same("IP is pushed ahead of entering", b.word(sp - 10), 40);
        due.same("the code is pushed behind it", b.word(sp - 12), 0);
        Bench narrow = new Bench().toRing(3);
        narrow.innerStack(Bench.STATE, 0, 10, Bench.data(0));
        String state = narrow.state();
        due.same("a fault on a stack without room for its code", narrow.x.load(2, 4 * 30), Bench.general(120));
        due.same("neither is there for the double fault's", narrow.x.register(12), 1);
        due.same("registers", narrow.state(), state);
        due.same("CS", narrow.held(0), "0 4095 1 3");
        due.same("SS", narrow.held(1), "0 4095 4 3");
        due.same("what was pushed stays", narrow.word(0), 40);
        Bench trapped = new Bench().toRing(3);
        trapped.innerStack(Bench.STATE, 0, 10, Bench.data(0));
        due.same("a trap has room there", trapped.x.trap(3), 0);
    }

    private static void down(Due due) {
        RingMachine x = Bench.down();
        int[] answers = {x.load(2, 0), x.read(2, 0), x.write(2, 0, 0), x.push(0), x.pop(), x.far(4, 0, false),
            x.back(), x.trap(0), x.end()};
        for (int answer : answers) {
            due.same("an instruction when down", answer, -1);
        }
        due.same("IP", x.register(4), 0);
        due.same("a new machine is not down", new RingMachine().register(12), 0);
    }
}
