/** The sentences on delivering traps (promise 14) and faults, each at its edges. */
public final class DeliveryEdgesTest {
    private static final int FREE = Bench.FREE;
    private static final int STACK = Bench.fault(12, 0);

    public static void main(String[] args) {
        Due due = new Due();
        vectorNumbers(due);
        vectorsBeyond(due);
        gates(due);
        gatesOfFaults(due);
        gateAheadOfTarget(due);
        targetNull(due);
        targets(due);
        targetsOfFaults(due);
        targetLimits(due);
        pushesOfTraps(due);
        pushesOfFaults(due);
        pushesInwards(due);
        faultsInwards(due);
        withoutWords(due);
        innerStacks(due);
        room(due);
        roomForTheCode(due);
        codeBehindEntering(due);
        pushedByTheNewRing(due);
        nested(due);
        enabled(due);
        flagsOfFaults(due);
        trapsThatFail(due);
        gateBySystem(due);
        whenDown(due);
        due.finish();
    }

    private static void vectorNumbers(Due due) {
        due.sentence("An instruction: a trap by vector n (mod 256).");
        int[][] cases = {{0, 0}, {15, 15}, {256, 0}, {271, 15}, {-256, 0}, {-241, 15}, {-250, 6}, {65536 + 7, 7},
            {Integer.MIN_VALUE, 0}, {Integer.MIN_VALUE + 9, 9}, {Integer.MAX_VALUE - 255 + 8, 8}};
        for (int[] c : cases) {
            Bench b = new Bench();
            due.same("trap " + c[0], b.x.trap(c[0]), 0);
            due.same("IP", b.x.register(4), 800 + c[1]);
        }
    }

    private static void vectorsBeyond(Due due) {
        due.sentence("GENERAL with 4 * v + 2 if v is 16 or more");
        for (int n : new int[] {16, 17, 31, 32, 127, 128, 254, 255, 256 + 16, -1, -240, Integer.MAX_VALUE}) {
            Bench b = new Bench();
            b.x.fill(Bench.VECTORS + 8 * 16, Bench.descriptor(900, 4, Bench.TRAP, 3));
            int v = n & 255;
            due.same("trap " + n, b.x.trap(n), Bench.general(4 * v + 2));
            due.same("the code pushed", b.word(b.x.register(3)), 4 * v + 2);
            due.same("IP", b.x.register(4), 813);
        }
    }

    private static void gates(Due due) {
        due.sentence("GENERAL with 4 * v + 2 if v is 16 or more, the kind is not 8 or 9, or, for a trap, its level is"
                + " less than the ring; MISSING with that code if it isn't present.");
        for (int n = 0; n < 4 * 4 * 16 * 2; n++) {
            int ring = n % 4;
            int level = n / 4 % 4;
            int kind = n / 16 % 16;
            boolean present = n < 256;
            int v = n % 3 == 0 ? 0 : n % 3 == 1 ? 6 : 15;
            Bench b = new Bench().toRing(ring);
            long gate = Bench.descriptor(900, 4, kind, level);
            b.gate(v, present ? gate : Bench.absent(gate));
            boolean fits = (kind == Bench.INTERRUPT || kind == Bench.TRAP) && level >= ring;
            int want = !fits ? Bench.general(4 * v + 2) : present ? 0 : Bench.fault(11, 4 * v + 2);
            String what = "trap " + v + " in ring " + ring + " by a gate of kind " + kind + ", level " + level
                    + (present ? "" : ", not present");
            due.same(what, b.x.trap(v), want);
            due.same(what + ": IP", b.x.register(4), want == 0 ? 900 : 800 + want / 65536);
        }
    }

    private static void gatesOfFaults(Due due) {
        due.sentence("the kind is not 8 or 9, or, for a trap, its level is less than the ring;"
                + " MISSING with that code if it isn't present.");
        for (int n = 0; n < 4 * 4 * 16 * 2; n++) {
            int ring = n % 4;
            int level = n / 4 % 4;
            int kind = n / 16 % 16;
            boolean present = n < 256;
            Bench b = new Bench().toRing(ring);
            long gate = Bench.descriptor(900, 4, kind, level);
            b.gate(13, present ? gate : Bench.absent(gate));
            boolean fits = (kind == Bench.INTERRUPT || kind == Bench.TRAP) && present;
            String what = "a fault in ring " + ring + " by a gate of kind " + kind + ", level " + level
                    + (present ? "" : ", not present");
            due.same(what, b.x.load(2, 4 * 30), Bench.general(120));
            due.same(what + ": IP", b.x.register(4), fits ? 900 : 808);
            due.same(what + ": the code", b.word(b.x.register(3)), fits ? 120 : 0);
        }
        Bench b = new Bench().toRing(3);
        b.gate(13, 0L);
        b.gate(8, Bench.descriptor(900, 4, Bench.INTERRUPT, 0));
        due.same("a fault", b.x.load(2, 4 * 30), Bench.general(120));
        due.same("vector 8 goes through a gate of any level, too", b.x.register(4), 900);
    }

    private static void gateAheadOfTarget(Due due) {
        due.sentence("MISSING with that code if it isn't present. The target as for a call");
        Bench b = new Bench();
        b.gate(5, Bench.absent(Bench.descriptor(900, 0, Bench.TRAP, 3)));
        due.same("a gate to NULL that isn't present", b.x.trap(5), Bench.fault(11, 22));
    }

    private static void targetNull(Due due) {
        due.sentence("The target as for a call");
        for (int selector = 0; selector < 4; selector++) {
            Bench b = new Bench();
            b.put(0, Bench.descriptor(0, 4095, Bench.CODE, 0));
            b.gate(5, Bench.descriptor(900, selector, Bench.TRAP, 3));
            due.same("a trap to " + selector, b.x.trap(5), Bench.general(0));
            b.gate(5, Bench.descriptor(900, Bench.select(Bench.COUNT, selector), Bench.TRAP, 3));
            due.same("a trap to an index of COUNT", b.x.trap(5), Bench.general(4 * Bench.COUNT));
        }
    }

    private static void targets(Due due) {
        due.sentence("The target as for a call");
        for (int n = 0; n < 4 * 4 * 16 * 2; n++) {
            int ring = n % 4;
            int level = n / 4 % 4;
            int kind = n / 16 % 16;
            boolean present = n < 256;
            Bench b = new Bench().toRing(ring);
            long code = Bench.descriptor(0, 4095, kind, level);
            b.put(FREE, present ? code : Bench.absent(code));
            b.gate(5, Bench.descriptor(900, Bench.select(FREE, n % 4), Bench.TRAP, 3));
            boolean fits = (kind == Bench.CODE || kind == Bench.CONFORMING) && level <= ring;
            int want = !fits ? Bench.general(4 * FREE) : present ? 0 : Bench.fault(11, 4 * FREE);
            String what = "a trap in ring " + ring + " to kind " + kind + ", level " + level
                    + (present ? "" : ", not present");
            due.same(what, b.x.trap(5), want);
            if (want == 0) {
                int entered = kind == Bench.CODE ? level : ring;
                int sp = entered < ring ? Bench.innerSp(entered) - 10 : ring == 0 ? 506 : 694;
                due.same(what + ": CS", b.x.register(0), Bench.select(FREE, entered));
                due.same(what + ": SS", b.x.register(1), Bench.data(entered));
                due.same(what + ": SP", b.x.register(3), sp);
                due.same(what + ": RING", b.x.register(6), entered);
            }
        }
    }

    private static void targetsOfFaults(Due due) {
        due.sentence("The target as for a call");
        for (int ring = 0; ring < 4; ring++) {
            for (int level = 0; level < 4; level++) {
                for (int kind = Bench.CODE; kind <= Bench.DATA; kind++) {
                    Bench b = new Bench().toRing(ring);
                    b.put(FREE, Bench.descriptor(0, 4095, kind, level));
                    b.gate(13, Bench.descriptor(900, Bench.select(FREE, 3), Bench.TRAP, 0));
                    boolean fits = kind <= Bench.CONFORMING && level <= ring;
                    String what = "a fault in ring " + ring + " to kind " + kind + ", level " + level;
                    due.same(what, b.x.load(2, 4 * 30), Bench.general(120));
                    due.same(what + ": IP", b.x.register(4), fits ? 900 : 808);
                    due.same(what + ": RING", b.x.register(6), !fits ? 0 : kind == Bench.CODE ? level : ring);
                }
            }
        }
    }

    private static void targetLimits(Due due) {
        due.sentence("TO ENTER code at an offset by a selector (looked up): GENERAL with 0 if the offset is greater"
                + " than its limit");
        for (int offset = 98; offset < 102; offset++) {
            for (int ring = 0; ring < 4; ring += 3) {
                Bench b = new Bench().toRing(ring);
                b.put(FREE, Bench.descriptor(0, 99, Bench.CODE, 0));
                b.gate(5, Bench.descriptor(offset, 4 * FREE, Bench.TRAP, 3));
                due.same("a trap to " + offset + ", limit 99", b.x.trap(5), offset <= 99 ? 0 : Bench.general(0));
                due.same("IP", b.x.register(4), offset <= 99 ? offset : 813);
            }
        }
    }

    private static void pushesOfTraps(Due due) {
        due.sentence("but FLAGS are pushed ahead of CS, and for a fault IP instead of THE NEXT");
        for (int flags = 0; flags < 4; flags++) {
            Bench b = new Bench().toFlags(flags);
            due.same("a trap", b.x.trap(5), 0);
            due.same("FLAGS", b.word(510), flags);
            due.same("CS", b.word(508), 4);
            due.same("the next", b.word(506), 61);
            due.same("SP", b.x.register(3), 506);
        }
    }

    private static void pushesOfFaults(Due due) {
        due.sentence("but FLAGS are pushed ahead of CS, and for a fault IP instead of THE NEXT");
        for (int flags = 0; flags < 4; flags++) {
            Bench b = new Bench().toFlags(flags);
            due.same("a fault", b.x.load(2, 4 * 30), Bench.general(120));
            due.same("FLAGS", b.word(510), flags);
            due.same("CS", b.word(508), 4);
            due.same("IP", b.word(506), 60);
            due.same("the code", b.word(504), 120);
            due.same("SP", b.x.register(3), 504);
        }
    }

    private static void pushesInwards(Due due) {
        due.sentence("but FLAGS are pushed ahead of CS");
        for (int ring = 1; ring < 4; ring++) {
            for (int level = 0; level < ring; level++) {
                Bench b = new Bench();
                b.push(Bench.data(ring), 700, 1, Bench.code(ring), 40);
                b.x.end();
                b.gate(5, Bench.descriptor(900, Bench.code(level), Bench.TRAP, 3));
                due.same("a trap from ring " + ring + " to " + level, b.x.trap(5), 0);
                int sp = Bench.innerSp(level);
                int[] pushed = {Bench.data(ring), 700, 1, Bench.code(ring), 41};
                for (int i = 0; i < pushed.length; i++) {
                    due.same("pushed word " + i, b.word(sp - 2 - 2 * i), pushed[i]);
                }
                due.same("SP", b.x.register(3), sp - 10);
            }
        }
    }

    private static void faultsInwards(Due due) {
        due.sentence("Then the code of a fault, if it has one, is pushed.");
        for (int ring = 1; ring < 4; ring++) {
            for (int level = 0; level < ring; level++) {
                Bench b = new Bench().toRing(ring);
                b.gate(13, Bench.descriptor(900, Bench.code(level), Bench.TRAP, 0));
                due.same("a fault from ring " + ring + " to " + level, b.x.load(2, 65535), Bench.general(65532));
                int sp = Bench.innerSp(level);
                int[] pushed = {Bench.data(ring), 700, 0, Bench.code(ring), 40, 65532};
                for (int i = 0; i < pushed.length; i++) {
                    due.same("pushed word " + i, b.word(sp - 2 - 2 * i), pushed[i]);
                }
                due.same("SP", b.x.register(3), sp - 12);
            }
        }
    }

    private static void withoutWords(Due due) {
        due.sentence("(INNER without words)");
        Bench b = new Bench().toRing(3);
        b.gate(5, Bench.descriptor(900, 4, Bench.TRAP, 3) | 0xFFL << 48);
        due.same("a trap by a gate whose byte 6 is 255", b.x.trap(5), 0);
        due.same("SP", b.x.register(3), Bench.innerSp(0) - 10);
        Bench fault = new Bench().toRing(3);
        fault.gate(13, Bench.descriptor(900, 4, Bench.TRAP, 3) | 0xFFL << 48);
        due.same("a fault by a gate whose byte 6 is 255", fault.x.load(2, 4 * 30), Bench.general(120));
        due.same("SP", fault.x.register(3), Bench.innerSp(0) - 12);
        Bench empty = new Bench().toStack(Bench.data(3), 65535);
        empty.gate(5, Bench.descriptor(900, 4, Bench.TRAP, 3) | 7L << 48);
        due.same("a trap when there are no words to read", empty.x.trap(5), 0);
    }

    private static void innerStacks(Due due) {
        due.sentence("That SS: TASK FAULT (10) with its code if it is NULL");
        Bench none = new Bench().toRing(3);
        none.gate(5, Bench.descriptor(900, Bench.code(1), Bench.TRAP, 3));
        none.innerStack(Bench.STATE, 1, 900, 2);
        due.same("a trap to a ring without a stack", none.x.trap(5), Bench.fault(10, 0));
        Bench level = new Bench().toRing(3);
        level.gate(5, Bench.descriptor(900, Bench.code(1), Bench.TRAP, 3));
        level.innerStack(Bench.STATE, 1, 900, Bench.data(2));
        due.same("a trap to a ring with a stack of another", level.x.trap(5), Bench.fault(10, Bench.data(2) & ~3));
        Bench absent = new Bench().toRing(3);
        absent.put(FREE, Bench.absent(Bench.descriptor(0, 4095, Bench.DATA, 1)));
        absent.gate(5, Bench.descriptor(900, Bench.code(1), Bench.TRAP, 3));
        absent.innerStack(Bench.STATE, 1, 900, Bench.select(FREE, 1));
        due.same("a trap to a ring whose stack isn't present", absent.x.trap(5), Bench.fault(12, 4 * FREE));
        Bench beyond = new Bench().toRing(3);
        beyond.gate(5, Bench.descriptor(900, Bench.code(1), Bench.TRAP, 3));
        beyond.innerStack(Bench.STATE, 1, 900, Bench.select(Bench.COUNT, 1));
        due.same("a trap to a ring whose stack is beyond COUNT", beyond.x.trap(5), Bench.general(4 * Bench.COUNT));
    }

    private static void room(Due due) {
        due.sentence("PUSH: SP falls by 2 (mod 65536), the word is written in SS at SP.");
        for (int sp = 0; sp < 12; sp++) {
            Bench b = new Bench().toRing(3);
            b.gate(5, Bench.descriptor(900, Bench.code(1), Bench.TRAP, 3));
            b.innerStack(Bench.STATE, 1, sp, Bench.data(1));
            due.same("a trap with room for " + sp + " bytes", b.x.trap(5), sp < 10 ? STACK : 0);
            due.same("SP", b.x.register(3), sp < 10 ? Bench.innerSp(0) - 12 : sp - 10);
        }
        for (int sp = 0; sp < 8; sp++) {
            Bench b = new Bench().toStack(Bench.data(3), sp);
            b.put(FREE, Bench.descriptor(0, 4095, Bench.CONFORMING, 0));
            b.gate(5, Bench.descriptor(900, 4 * FREE, Bench.TRAP, 3));
            due.same("a trap in its ring with room for " + sp + " bytes", b.x.trap(5), sp < 6 ? STACK : 0);
        }
    }

    private static void roomForTheCode(Due due) {
        due.sentence("Then the code of a fault, if it has one, is pushed.");
        for (int sp = 8; sp < 14; sp++) {
            Bench b = new Bench().toRing(3);
            b.gate(13, Bench.descriptor(900, Bench.code(1), Bench.TRAP, 3));
            b.innerStack(Bench.STATE, 1, sp, Bench.data(1));
            due.same("a fault with room for " + sp + " bytes", b.x.load(2, 4 * 30), Bench.general(120));
            due.same("IP", b.x.register(4), sp < 12 ? 808 : 900);
            due.same("SP", b.x.register(3), sp < 12 ? Bench.innerSp(0) - 12 : sp - 12);
        }
    }

    private static void codeBehindEntering(Due due) {
        due.sentence("Then the code of a fault, if it has one, is pushed.");
        Bench b = new Bench().toRing(3);
        b.gate(13, Bench.descriptor(4096, Bench.code(1), Bench.TRAP, 3));
        due.same("a fault beyond the limit of its code", b.x.load(2, 4 * 30), Bench.general(120));
        due.same("vector 8 is delivered", b.x.register(4), 808);
        due.same("IP was pushed ahead of entering", b.word(Bench.innerSp(1) - 10), 40);
        due.same("the code was not", b.word(Bench.innerSp(1) - 12), 0);
    }

    private static void pushedByTheNewRing(Due due) {
        due.sentence("From here on the ring is the level, and SS and SP are these");
        for (int level = 0; level < 3; level++) {
            for (int trap = 0; trap < 2; trap++) {
                Bench b = new Bench().paged().toRing(3);
                b.gate(13, Bench.descriptor(900, Bench.code(level), Bench.TRAP, 3));
                b.setPage(13, 1);
                b.setPage(14, 1);
                b.setPage(15, 1);
                b.x.pages(1, true);
                due.same("pushes of ring " + level + " in a page that is not open",
                        trap == 1 ? b.x.trap(13) : b.x.load(2, 4 * 30), trap == 1 ? 0 : Bench.general(120));
                due.same("SP", b.x.register(3), Bench.innerSp(level) - (trap == 1 ? 10 : 12));
                due.same("IP", b.x.register(4), 900);
            }
        }
        // Conforming code keeps the ring, so ring 3 pushes on its own stack.
        Bench own = new Bench().paged().toRing(3);
        own.put(FREE, Bench.descriptor(0, 4095, Bench.CONFORMING, 0));
        own.gate(5, Bench.descriptor(900, 4 * FREE, Bench.TRAP, 3));
        own.setPage(10, 5);
        own.x.pages(1, true);
        due.same("a push of ring 3 in a page that is not writable", own.x.trap(5), Bench.fault(14, 7));
        due.same("the fault address", own.x.register(10), 698);
    }

    private static void nested(Due due) {
        due.sentence("Then NESTED is cleared, and ENABLED for an interrupt gate.");
        for (int flags = 0; flags < 4; flags++) {
            Bench b = new Bench().toFlags(flags);
            b.gate(5, Bench.descriptor(900, 4, Bench.TRAP, 3));
            due.same("a trap", b.x.trap(5), 0);
            due.same("FLAGS behind a trap gate", b.x.register(5), flags & 1);
            due.same("the end of it", b.x.end(), 0);
            due.same("FLAGS", b.x.register(5), flags);
        }
    }

    private static void enabled(Due due) {
        due.sentence("Then NESTED is cleared, and ENABLED for an interrupt gate.");
        for (int flags = 0; flags < 4; flags++) {
            Bench b = new Bench().toFlags(flags);
            b.gate(5, Bench.descriptor(900, 4, Bench.INTERRUPT, 3));
            due.same("a trap", b.x.trap(5), 0);
            due.same("FLAGS behind an interrupt gate", b.x.register(5), 0);
            due.same("the end of it", b.x.end(), 0);
            due.same("FLAGS", b.x.register(5), flags);
        }
    }

    private static void flagsOfFaults(Due due) {
        due.sentence("Then NESTED is cleared, and ENABLED for an interrupt gate.");
        for (int flags = 0; flags < 4; flags++) {
            for (int kind = Bench.INTERRUPT; kind <= Bench.TRAP; kind++) {
                Bench b = new Bench().toFlags(flags);
                b.gate(13, Bench.descriptor(900, 4, kind, 0));
                due.same("a fault", b.x.load(2, 4 * 30), Bench.general(120));
                due.same("FLAGS behind kind " + kind, b.x.register(5), kind == Bench.TRAP ? flags & 1 : 0);
                Bench two = new Bench().toFlags(flags);
                two.gate(13, 0L);
                two.gate(8, Bench.descriptor(900, 4, kind, 0));
                due.same("a fault by vector 8", two.x.load(2, 4 * 30), Bench.general(120));
                due.same("FLAGS behind kind " + kind, two.x.register(5), kind == Bench.TRAP ? flags & 1 : 0);
                due.same("FLAGS pushed", two.word(510), flags);
            }
        }
        // A delivery that raises a fault has cleared nothing.
        Bench late = new Bench().toFlags(3);
        late.gate(13, Bench.descriptor(4096, 4, Bench.INTERRUPT, 0));
        due.same("a fault whose delivery raises another", late.x.load(2, 4 * 30), Bench.general(120));
        due.same("FLAGS pushed by vector 8", late.word(510), 3);
    }

    private static void trapsThatFail(Due due) {
        due.sentence("RAISING a fault ends what is done: registers (not the FAULT ADDRESS) are as before it");
        Bench b = new Bench().toRing(3);
        b.gate(5, Bench.descriptor(4096, Bench.code(1), Bench.INTERRUPT, 3));
        due.same("a trap beyond the limit", b.x.trap(5), Bench.general(0));
        int sp = Bench.innerSp(0);
        int[] pushed = {Bench.data(3), 700, 0, Bench.code(3), 40, 0};
        for (int i = 0; i < pushed.length; i++) {
            due.same("pushed word " + i, b.word(sp - 2 - 2 * i), pushed[i]);
        }
        due.same("what the trap pushed stays", b.word(Bench.innerSp(1) - 10), 41);
    }

    private static void gateBySystem(Due due) {
        due.sentence("DELIVERY (of a trap or a fault) by a vector v: the gate is read by the system");
        Bench b = new Bench().paged().toRing(3);
        b.setPage(9, 1);
        b.x.pages(1, true);
        due.same("a fault by a gate in a page that is not open", b.x.load(2, 4 * 30), Bench.general(120));
        due.same("IP", b.x.register(4), 813);
        due.same("the page is only read", b.bitsOfPage(9), 33);
        Bench none = new Bench().paged().toRing(3);
        none.x.tables(Bench.TABLE, Bench.COUNT, Bench.VECTORS - 64);
        none.setPage(8, 6);
        none.x.pages(1, true);
        due.same("a trap by a gate in a page that is not there", none.x.trap(9), Bench.fault(14, 0));
        due.same("vectors 14 and 8 are in that page, too", none.x.register(12), 1);
        due.same("the fault address noted last is that of vector 8", none.x.register(10), Bench.VECTORS);
    }

    private static void whenDown(Due due) {
        due.sentence("-1, and nothing is done, when the machine was DOWN");
        due.same("trap when down", Bench.down().trap(5), -1);
        due.same("trap 16 when down", Bench.down().trap(16), -1);
    }
}
