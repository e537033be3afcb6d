/** Promise 12: far calls and jumps to code and through gates (TaskTest has those to tasks). */
public final class FarTest {
    private static final int FREE = Bench.FREE;
    private static final int OTHER = Bench.FREE + 1;
    private static final int THIRD = Bench.FREE + 2;
    private static final int WHAT = Bench.general(4 * FREE);

    public static void main(String[] args) {
        Due due = new Due();
        nulls(due);
        direct(due);
        directLevels(due);
        directRefused(due);
        otherKinds(due);
        gateLevels(due);
        gateJumps(due);
        gateCalls(due);
        targets(due);
        inner(due);
        innerWords(due);
        innerRefused(due);
        innerFaults(due);
        whenDown(due);
        due.finish();
    }

    private static void nulls(Due due) {
        for (int selector = 0; selector < 4; selector++) {
            Bench b = new Bench().toRing(selector);
            b.put(0, Bench.descriptor(0, 4095, Bench.CONFORMING, 0));
            due.same("a jump to " + selector, b.x.far(selector, 0, false), Bench.general(0));
            due.same("a call to " + selector, b.x.far(selector, 0, true), Bench.general(0));
        }
        due.same("the index has 14 bits", new Bench().x.far(32768 + 4, 0, true), Bench.general(32768 + 4));
        due.same("an index of COUNT", new Bench().x.far(4 * Bench.COUNT + 1, 0, true), Bench.general(4 * Bench.COUNT));
    }

    private static void direct(Due due) {
        Bench b = new Bench();
        b.put(FREE, Bench.descriptor(9, 300, Bench.CODE, 0));
        b.x.push(0);
        due.same("a jump", b.x.far(65536 + 4 * FREE, 65536 + 300, false), 0);
        due.same("registers", b.state(), 4 * FREE + " 8 8 510 300 0 0");
        due.same("CS", b.held(0), "9 300 1 0");
        due.same("a call", b.x.far(4, 4095, true), 0);
        due.same("registers", b.state(), "4 8 8 506 4095 0 0");
        due.same("the pushed CS", b.word(508), 4 * FREE);
        due.same("the pushed IP is the next", b.word(506), 301);
        b.put(OTHER, Bench.descriptor(0, 65535, Bench.CODE, 0));
        b.x.far(4 * OTHER, -1, false);
        due.same("IP", b.x.register(4), 65535);
        b.x.far(4, 0, true);
        due.same("the next is taken mod 65536", b.word(502), 0);
    }

    private static void directLevels(Due due) {
        for (int ring = 0; ring < 4; ring++) {
            for (int rpl = 0; rpl < 4; rpl++) {
                for (int level = 0; level < 4; level++) {
                    direct(due, ring, rpl, level, Bench.CODE, level == ring && rpl <= ring);
                    direct(due, ring, rpl, level, Bench.CONFORMING, level <= ring);
                }
            }
        }
    }

    private static void direct(Due due, int ring, int rpl, int level, int kind, boolean entered) {
        for (int call = 0; call < 2; call++) {
            Bench b = new Bench().toRing(ring);
            b.put(FREE, Bench.descriptor(0, 100, kind, level));
            String what = "far to kind " + kind + " of level " + level + " with RPL " + rpl + " in ring " + ring;
            due.same(what, b.x.far(Bench.select(FREE, rpl), 7, call == 1), entered ? 0 : WHAT);
            if (entered) {
                due.same(what + ": CS", b.x.register(0), Bench.select(FREE, ring));
                due.same(what + ": RING", b.x.register(6), ring);
                due.same(what + ": IP", b.x.register(4), 7);
            }
        }
    }

    private static void directRefused(Due due) {
        Bench b = new Bench();
        b.put(FREE, Bench.absent(Bench.descriptor(0, 10, Bench.CODE, 0)));
        due.same("code that is not present", b.x.far(4 * FREE, 11, true), Bench.fault(11, 4 * FREE));
        b.put(FREE, Bench.absent(Bench.descriptor(0, 10, Bench.CODE, 1)));
        due.same("code of another level that is not present", b.x.far(4 * FREE, 11, true), WHAT);
        b.put(FREE, Bench.descriptor(0, 10, Bench.CODE, 0));
        due.same("the limit", b.x.far(4 * FREE, 10, false), 0);
        due.same("an offset beyond the limit", b.x.far(4 * FREE, 11, false), Bench.general(0));
        Bench pushing = new Bench();
        pushing.put(FREE, Bench.descriptor(0, 10, Bench.CODE, 0));
        due.same("a call beyond the limit", pushing.x.far(4 * FREE, 11, true), Bench.general(0));
        due.same("FLAGS, CS, IP and the code are pushed from the old SP on", pushing.x.register(3), 504);
        Bench full = new Bench();
        full.put(OTHER, Bench.descriptor(0, 508, Bench.DATA, 3));
        full.push(Bench.select(OTHER, 3), 512, Bench.code(3), 40);
        full.x.back();
        due.same("a call on a stack that is too short", full.x.far(Bench.code(3), 4096, true), Bench.fault(12, 0));
        due.same("a jump needs no stack", new Bench().x.far(4, 5, false), 0);
    }

    private static void otherKinds(Due due) {
        for (int kind : new int[] {0, 3, 4, 6, 8, 9, 10, 11, 12, 13, 14, 15}) {
            Bench b = new Bench();
            b.put(FREE, Bench.absent(Bench.descriptor(0, 100, kind, 0)));
            due.same("a call to kind " + kind, b.x.far(4 * FREE, 0, true), WHAT);
            due.same("a jump to kind " + kind, b.x.far(4 * FREE, 0, false), WHAT);
        }
    }

    private static void gateLevels(Due due) {
        for (int ring = 0; ring < 4; ring++) {
            for (int rpl = 0; rpl < 4; rpl++) {
                for (int level = 0; level < 4; level++) {
                    Bench b = new Bench().toRing(ring);
                    b.put(FREE, Bench.callGate(Bench.code(ring), 70, level, 3));
                    boolean passed = level >= ring && level >= rpl;
                    due.same("a gate of level " + level + " with RPL " + rpl + " in ring " + ring,
                            b.x.far(Bench.select(FREE, rpl), 9, true), passed ? 0 : WHAT);
                    if (passed) {
                        due.same("IP is the gate's", b.x.register(4), 70);
                        due.same("no words go along on the same stack", b.x.register(3), (ring == 0 ? 512 : 700) - 4);
                    }
                }
            }
        }
        Bench b = new Bench();
        b.put(FREE, Bench.absent(Bench.callGate(0, 70, 3, 0)));
        due.same("a gate that is not present", b.x.far(Bench.select(FREE, 3), 0, true), Bench.fault(11, 4 * FREE));
        b.put(FREE, Bench.absent(Bench.callGate(0, 70, 2, 0)));
        due.same("nor may be passed", b.x.far(Bench.select(FREE, 3), 0, true), WHAT);
    }

    private static void gateJumps(Due due) {
        for (int level = 0; level < 4; level++) {
            for (int kind = 0; kind < 10; kind++) {
                Bench b = new Bench().toRing(2);
                b.put(FREE, Bench.callGate(Bench.select(OTHER, 3), 70, 3, 2));
                b.put(OTHER, Bench.descriptor(0, 100, kind, level));
                boolean taken = kind == Bench.CODE && level == 2 || kind == Bench.CONFORMING && level <= 2;
                due.same("a jump by a gate to kind " + kind + " of level " + level, b.x.far(4 * FREE, 5, false),
                        taken ? 0 : Bench.general(4 * OTHER));
                if (taken) {
                    due.same("registers", b.state(), Bench.select(OTHER, 2) + " " + Bench.data(2) + " 0 700 70 0 2");
                }
            }
        }
    }

    private static void gateCalls(Due due) {
        for (int level = 0; level < 4; level++) {
            for (int kind = 0; kind < 10; kind++) {
                Bench b = new Bench().toRing(2);
                b.put(FREE, Bench.callGate(Bench.select(OTHER, 3), 70, 3, 0));
                b.put(OTHER, Bench.descriptor(0, 100, kind, level));
                boolean taken = (kind == Bench.CODE || kind == Bench.CONFORMING) && level <= 2;
                due.same("a call by a gate to kind " + kind + " of level " + level, b.x.far(4 * FREE, 5, true),
                        taken ? 0 : Bench.general(4 * OTHER));
                if (taken) {
                    boolean inner = kind == Bench.CODE && level < 2;
                    int ring = inner ? level : 2;
                    int sp = inner ? Bench.innerSp(level) - 8 : 696;
                    due.same("registers", b.state(), Bench.select(OTHER, ring) + " " + Bench.data(ring) + " 0 " + sp
                            + " 70 0 " + ring);
                    due.same("the pushed CS", b.word(sp + 2), Bench.code(2));
                    due.same("the pushed IP", b.word(sp), 41);
                }
            }
        }
    }

    private static void targets(Due due) {
        for (int call = 0; call < 2; call++) {
            Bench b = new Bench();
            b.put(0, Bench.descriptor(0, 4095, Bench.CODE, 0));
            b.put(FREE, Bench.callGate(3, 70, 3, 0));
            due.same("a gate to NULL", b.x.far(4 * FREE, 0, call == 1), Bench.general(0));
            b.put(FREE, Bench.callGate(4 * 60 + 1, 70, 3, 0));
            due.same("a gate beyond COUNT", b.x.far(4 * FREE, 0, call == 1), Bench.general(240));
            b.put(FREE, Bench.callGate(Bench.select(OTHER, 1), 70, 3, 0));
            b.put(OTHER, Bench.absent(Bench.descriptor(0, 69, Bench.CODE, 0)));
            due.same("a gate to code that is not present", b.x.far(4 * FREE, 0, call == 1), Bench.fault(11, 4 * OTHER));
            b.put(OTHER, Bench.descriptor(0, 69, Bench.CODE, 0));
            due.same("a gate beyond the limit", b.x.far(4 * FREE, 0, call == 1), Bench.general(0));
            b.put(OTHER, Bench.descriptor(0, 70, Bench.CODE, 0));
            due.same("a gate to the limit", b.x.far(4 * FREE, 0, call == 1), 0);
        }
    }

    private static void inner(Due due) {
        Bench b = new Bench().toRing(3);
        b.put(FREE, Bench.callGate(Bench.code(1), 700, 3, 2));
        b.push(11, 22, 33);
        due.same("a call inwards", b.x.far(Bench.select(FREE, 3), 1, true), 0);
        int sp = Bench.innerSp(1);
        due.same("registers", b.state(), Bench.code(1) + " " + Bench.data(1) + " 0 " + (sp - 12) + " 700 0 1");
        due.same("SS", b.held(1), "0 4095 4 1");
        int[] want = {Bench.data(3), 694, 22, 33, Bench.code(3), 44};
        for (int i = 0; i < want.length; i++) {
            due.same("pushed word " + i, b.word(sp - 2 - 2 * i), want[i]);
        }
    }

    private static void innerWords(Due due) {
        for (int words = 0; words < 8; words++) {
            Bench b = new Bench().toRing(3);
            b.put(FREE, Bench.callGate(Bench.code(0), 700, 3, words) | 0xF8L << 48);
            for (int i = 7; i > 0; i--) {
                b.x.push(100 + i);
            }
            due.same("a call with " + words + " words", b.x.far(Bench.select(FREE, 3), 1, true), 0);
            int sp = Bench.innerSp(0);
            due.same("SP with " + words + " words", b.x.register(3), sp - 8 - 2 * words);
            due.same("IP with " + words + " words", b.word(sp - 8 - 2 * words), 48);
            for (int i = 0; i < words; i++) {
                due.same("word " + i, b.word(sp - 4 - 2 * words + 2 * i), 101 + i);
            }
        }
        Bench wrapped = new Bench();
        wrapped.put(OTHER, Bench.descriptor(640, 65535, Bench.DATA, 3));
        wrapped.push(Bench.select(OTHER, 3), 65534, Bench.code(3), 40);
        wrapped.x.back();
        wrapped.put(FREE, Bench.callGate(Bench.code(0), 700, 3, 2));
        wrapped.setWord(638, 5);
        wrapped.setWord(640, 6);
        due.same("words round the end of the stack", wrapped.x.far(Bench.select(FREE, 3), 1, true), 0);
        due.same("the first", wrapped.word(Bench.innerSp(0) - 8), 5);
        due.same("the second", wrapped.word(Bench.innerSp(0) - 6), 6);
        Bench middle = new Bench();
        middle.put(OTHER, Bench.descriptor(640, 65535, Bench.DATA, 3));
        middle.push(Bench.select(OTHER, 3), 32768, Bench.code(3), 40);
        middle.x.back();
        middle.put(FREE, Bench.callGate(Bench.code(0), 700, 3, 1));
        middle.setWord(640, 6);
        due.same("a word at SP 32768", middle.x.far(Bench.select(FREE, 3), 1, true), 0);
        due.same("it is at 640, for linear addresses are taken mod 4096", middle.word(Bench.innerSp(0) - 6), 6);
    }

    private static void stackRefused(Due due, String what, int selector, long descriptor, int want) {
        Bench b = new Bench().toRing(3);
        b.put(FREE, Bench.callGate(Bench.code(1), 700, 3, 0));
        b.put(0, descriptor);
        b.put(OTHER, descriptor);
        b.innerStack(Bench.STATE, 1, 900, selector);
        due.same(what, b.x.far(Bench.select(FREE, 3), 0, true), want);
    }

    private static void innerRefused(Due due) {
        int task = Bench.fault(10, 4 * OTHER);
        int inner = Bench.select(OTHER, 1);
        long good = Bench.descriptor(0, 4095, Bench.DATA, 1);
        for (int rpl = 0; rpl < 4; rpl++) {
            stackRefused(due, "inner SS " + rpl, rpl, good, Bench.fault(10, 0));
            stackRefused(due, "inner SS with RPL " + rpl, Bench.select(OTHER, rpl), good, rpl == 1 ? 0 : task);
            stackRefused(due, "inner SS of level " + rpl, inner, Bench.descriptor(0, 4095, Bench.DATA, rpl),
                    rpl == 1 ? 0 : task);
        }
        for (int kind = 0; kind < 10; kind++) {
            stackRefused(due, "inner SS of kind " + kind, inner, Bench.descriptor(0, 4095, kind, 1),
                    kind == 4 ? 0 : task);
        }
        stackRefused(due, "inner SS that is not present", inner, Bench.absent(good), Bench.fault(12, 4 * OTHER));
        stackRefused(due, "inner SS of a wrong level that is not present", inner,
                Bench.absent(Bench.descriptor(0, 4095, Bench.DATA, 0)), task);
        stackRefused(due, "inner SS beyond COUNT", 4 * Bench.COUNT + 1, good, Bench.general(4 * Bench.COUNT));
        stackRefused(due, "inner SS that is too short", inner, Bench.descriptor(0, 890, Bench.DATA, 1),
                Bench.fault(12, 0));
    }

    private static void innerFaults(Due due) {
        Bench b = new Bench();
        b.put(OTHER, Bench.descriptor(0, 701, Bench.DATA, 3));
        b.push(Bench.select(OTHER, 3), 700, Bench.code(3), 40);
        b.x.back();
        b.put(FREE, Bench.callGate(Bench.code(1), 700, 3, 2));
        due.same("words beyond the old stack", b.x.far(Bench.select(FREE, 3), 0, true), Bench.fault(12, 0));
        due.same("nothing was pushed on the new stack", b.word(Bench.innerSp(1) - 2), 0);
        b.toRing(3);
        b.put(THIRD, Bench.absent(Bench.descriptor(0, 4095, Bench.DATA, 1)));
        b.innerStack(Bench.STATE, 1, 900, Bench.select(THIRD, 1));
        due.same("the new stack is looked at ahead of the words", b.x.far(Bench.select(FREE, 3), 0, true),
                Bench.fault(12, 4 * THIRD));
        Bench late = new Bench().toRing(3);
        late.put(FREE, Bench.callGate(Bench.code(1), 4096, 3, 0));
        due.same("an offset beyond the limit", late.x.far(Bench.select(FREE, 3), 0, true), Bench.general(0));
        due.same("the ring of the fault is the old one", late.word(Bench.innerSp(0) - 2), Bench.data(3));
        due.same("what was pushed on the new stack stays", late.word(Bench.innerSp(1) - 2), Bench.data(3));
    }

    private static void whenDown(Due due) {
        due.same("far when down", Bench.down().far(4, 0, true), -1);
    }
}
