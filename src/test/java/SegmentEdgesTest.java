/** The sentences on accessing words of segments, pushing and popping, and promises 7 to 11, each at its edges. */
public final class SegmentEdgesTest {
    private static final int FREE = Bench.FREE;
    private static final int OTHER = Bench.FREE + 1;
    private static final int STACK = Bench.fault(12, 0);

    public static void main(String[] args) {
        Due due = new Due();
        dataLimits(due);
        codeLimits(due);
        stackLimits(due);
        nullData(due);
        nullStack(due);
        notData(due);
        baseAndOffset(due);
        byTheRing(due);
        pushWraps(due);
        pushLimits(due);
        popWraps(due);
        popLimits(due);
        stackByTheRing(due);
        loadNullData(due);
        loadData(due);
        loadDataOrder(due);
        loadNullStack(due);
        loadStack(due);
        loadStackOrder(due);
        loadKeeps(due);
        read(due);
        write(due);
        push(due);
        pop(due);
        due.finish();
    }

    private static void dataLimits(Due due) {
        due.sentence("TO ACCESS a word of a segment at an offset: GENERAL with 0 (for SS: STACK (12) with 0)"
                + " when it is NULL, or offset + 1 is greater than the limit");
        for (int limit : new int[] {0, 1, 2, 9, 10, 32767, 32768, 65534, 65535}) {
            for (int offset : new int[] {0, 1, limit - 2, limit - 1, limit, limit + 1, 65535}) {
                if (offset < 0 || offset > 65535) {
                    continue;
                }
                for (int writing = 0; writing < 2; writing++) {
                    Bench b = new Bench();
                    b.put(FREE, Bench.descriptor(700, limit, Bench.DATA, 0));
                    b.x.load(2, 4 * FREE);
                    int want = offset + 1 > limit ? Bench.general(0) : 0;
                    due.same("limit " + limit + ", offset " + offset,
                            writing == 1 ? b.x.write(2, offset, 1) : b.x.read(2, offset), want);
                    due.same("IP", b.x.register(4), want == 0 ? 2 : 813);
                }
            }
        }
    }

    private static void codeLimits(Due due) {
        due.sentence("TO ACCESS a word of a segment at an offset: GENERAL with 0 (for SS: STACK (12) with 0)"
                + " when it is NULL, or offset + 1 is greater than the limit");
        for (int offset : new int[] {0, 98, 99, 100, 65535}) {
            Bench b = new Bench();
            b.put(FREE, Bench.descriptor(700, 99, Bench.CODE, 0));
            b.setWord(700 + 98, 0x1234);
            b.x.far(4 * FREE, 0, false);
            due.same("a read in CS at " + offset, b.x.read(0, offset), offset < 99 ? 0 : Bench.general(0));
            due.same("the accumulator", b.x.register(11), offset == 98 ? 0x1234 : 0);
        }
    }

    private static void stackLimits(Due due) {
        due.sentence("TO ACCESS a word of a segment at an offset: GENERAL with 0 (for SS: STACK (12) with 0)"
                + " when it is NULL, or offset + 1 is greater than the limit");
        for (int offset : new int[] {0, 598, 599, 600, 65535}) {
            for (int writing = 0; writing < 2; writing++) {
                Bench b = new Bench();
                b.put(FREE, Bench.descriptor(0, 599, Bench.DATA, 0));
                b.x.load(1, 4 * FREE);
                due.same("limit 599 of SS, offset " + offset,
                        writing == 1 ? b.x.write(1, offset, 1) : b.x.read(1, offset), offset < 599 ? 0 : STACK);
                due.same("IP", b.x.register(4), offset < 599 ? 2 : 812);
            }
        }
    }

    private static void nullData(Due due) {
        due.sentence("TO ACCESS a word of a segment at an offset: GENERAL with 0 (for SS: STACK (12) with 0)"
                + " when it is NULL, or offset + 1 is greater than the limit");
        for (int selector = 0; selector < 4; selector++) {
            Bench b = new Bench();
            b.x.load(2, selector);
            due.same("a read in DS that is " + selector, b.x.read(2, 0), Bench.general(0));
            due.same("a write in DS that is " + selector, b.x.write(2, 0, 1), Bench.general(0));
            due.same("nothing is written", b.word(0), 0);
        }
    }

    /** SS is NULL only behind a switch that raised a fault, until that is delivered. */
    private static void nullStack(Due due) {
        due.sentence("TO ACCESS a word of a segment at an offset: GENERAL with 0 (for SS: STACK (12) with 0)"
                + " when it is NULL, or offset + 1 is greater than the limit");
        for (int ring = 0; ring < 4; ring += 3) {
            Bench b = new Bench();
            b.put(FREE, Bench.descriptor(1200, 99, Bench.TASK, 0));
            b.taskState(1200, 50, 0, 700, Bench.code(ring), 1, 0, ring, 0);
            b.innerStack(1200, 0, Bench.innerSp(0), 8);
            b.put(OTHER, Bench.descriptor(0, 4095, Bench.CONFORMING, 0));
            b.gate(10, Bench.descriptor(810, 4 * OTHER, Bench.TRAP, 3));
            due.same("a switch to ring " + ring + " without SS", b.x.far(4 * FREE, 0, false), Bench.fault(10, 0));
            due.same("nothing can be pushed on the same stack: down", b.x.register(12), ring == 0 ? 1 : 0);
            due.same("or vector 8 goes inwards", b.x.register(4), ring == 0 ? 50 : 808);
            due.same("nothing was written through NULL", b.word(698), 0);
        }
    }

    private static void notData(Due due) {
        due.sentence("to write, GENERAL with 0 if it is not data (kind 4).");
        for (int kind = 1; kind < 5; kind++) {
            Bench b = new Bench();
            b.put(FREE, Bench.descriptor(700, 99, kind, 0));
            b.x.load(2, 4 * FREE);
            due.same("a write in DS of kind " + kind, b.x.write(2, 4, 9), kind == 4 ? 0 : Bench.general(0));
            due.same("the word", b.word(704), kind == 4 ? 9 : 0);
            due.same("a read", b.x.read(2, 4), 0);
        }
        for (int kind = 1; kind < 3; kind++) {
            Bench b = new Bench();
            b.put(FREE, Bench.descriptor(700, 99, kind, 0));
            b.x.far(4 * FREE, 0, false);
            due.same("a write in CS of kind " + kind, b.x.write(0, 4, 9), Bench.general(0));
            due.same("the word", b.word(704), 0);
        }
        Bench paged = new Bench().paged();
        paged.put(FREE, Bench.descriptor(64 * 40, 99, Bench.READ_ONLY, 0));
        paged.x.load(2, 4 * FREE);
        paged.x.pages(1, true);
        due.same("it is refused ahead of the page", paged.x.write(2, 4, 9), Bench.general(0));
    }

    private static void baseAndOffset(Due due) {
        due.sentence("Then the word at base + offset is accessed by the ring.");
        Bench b = new Bench();
        b.put(FREE, Bench.descriptor(701, 99, Bench.DATA, 0));
        b.x.load(1, 4 * FREE);
        b.x.load(2, 4 * FREE);
        due.same("a write in DS", b.x.write(2, 98, 0x1234), 0);
        due.same("the word", b.word(799), 0x1234);
        due.same("a write in SS", b.x.write(1, 0, 0x4321), 0);
        due.same("the word", b.word(701), 0x4321);
        due.same("a read in SS", b.x.read(1, 98), 0);
        due.same("the accumulator", b.x.register(11), 0x1234);
    }

    private static void byTheRing(Due due) {
        due.sentence("Then the word at base + offset is accessed by the ring.");
        for (int ring = 0; ring < 4; ring++) {
            for (int s = 0; s < 3; s++) {
                for (int writing = 0; writing < (s == 0 ? 1 : 2); writing++) {
                    Bench b = new Bench().paged().toRing(ring);
                    b.x.load(2, Bench.data(ring));
                    b.setPage(20, 1);
                    b.x.pages(1, true);
                    int got = writing == 1 ? b.x.write(s, 64 * 20, 1) : b.x.read(s, 64 * 20);
                    due.same("segment " + s + " by ring " + ring + " in a page that is not open",
                            got, ring < 3 ? 0 : Bench.fault(14, 5 + 2 * writing));
                }
            }
        }
    }

    private static void pushWraps(Due due) {
        due.sentence("PUSH: SP falls by 2 (mod 65536), the word is written in SS at SP.");
        int[][] cases = {{0, 65534, 0}, {1, 65535, STACK}, {2, 0, 0}, {3, 1, 0}, {32768, 32766, 0}, {65535, 65533, 0}};
        for (int[] c : cases) {
            Bench b = new Bench();
            b.put(FREE, Bench.descriptor(1500, 65535, Bench.DATA, 3));
            b.toStack(Bench.select(FREE, 3), c[0]);
            due.same("a push at SP " + c[0], b.x.push(0x1234), c[2]);
            due.same("SP", c[2] == 0 ? b.x.register(3) : b.word(Bench.innerSp(0) - 4), c[2] == 0 ? c[1] : c[0]);
            due.same("the word", b.word((1500 + c[1]) % 4096), c[2] == 0 ? 0x1234 : 0);
        }
    }

    private static void pushLimits(Due due) {
        due.sentence("PUSH: SP falls by 2 (mod 65536), the word is written in SS at SP.");
        for (int sp = 600; sp < 606; sp++) {
            Bench b = new Bench();
            b.put(FREE, Bench.descriptor(0, 601, Bench.DATA, 3));
            b.toStack(Bench.select(FREE, 3), sp);
            boolean fits = sp - 2 + 1 <= 601;
            due.same("a push at SP " + sp + ", limit 601", b.x.push(0x1234), fits ? 0 : STACK);
            due.same("SP", fits ? b.x.register(3) : b.word(Bench.innerSp(0) - 4), fits ? sp - 2 : sp);
        }
        Bench b = new Bench();
        b.put(FREE, Bench.descriptor(0, 4095, Bench.DATA, 3));
        b.toStack(Bench.select(FREE, 3), 0);
        due.same("a push at SP 0, limit 4095", b.x.push(1), STACK);
    }

    private static void popWraps(Due due) {
        due.sentence("POP: the word is read in SS at SP, SP grows by 2.");
        int[][] cases = {{65534, 0, 0}, {65535, 65535, STACK}, {65533, 65535, 0}, {0, 2, 0}, {32766, 32768, 0}};
        for (int[] c : cases) {
            Bench b = new Bench();
            b.put(FREE, Bench.descriptor(1500, 65535, Bench.DATA, 3));
            b.toStack(Bench.select(FREE, 3), c[0]);
            b.setWord((1500 + c[0]) % 4096, 0x1234);
            boolean there = (1500 + c[0]) % 4096 < 2048;
            due.same("a pop at SP " + c[0], b.x.pop(), c[2]);
            due.same("SP", c[2] == 0 ? b.x.register(3) : b.word(Bench.innerSp(0) - 4), c[1]);
            due.same("the accumulator", b.x.register(11), c[2] != 0 ? 0 : there ? 0x1234 : 65535);
        }
    }

    private static void popLimits(Due due) {
        due.sentence("POP: the word is read in SS at SP, SP grows by 2.");
        for (int sp = 598; sp < 604; sp++) {
            Bench b = new Bench();
            b.put(FREE, Bench.descriptor(0, 601, Bench.DATA, 3));
            b.toStack(Bench.select(FREE, 3), sp);
            boolean fits = sp + 1 <= 601;
            due.same("a pop at SP " + sp + ", limit 601", b.x.pop(), fits ? 0 : STACK);
            due.same("SP", fits ? b.x.register(3) : b.word(Bench.innerSp(0) - 4), fits ? sp + 2 : sp);
        }
    }

    private static void stackByTheRing(Due due) {
        due.sentence("Then the word at base + offset is accessed by the ring.");
        for (int ring = 1; ring < 4; ring++) {
            for (int pushing = 0; pushing < 2; pushing++) {
                Bench b = new Bench().paged().toRing(ring);
                b.setPage(10, 1);
                b.x.pages(1, true);
                due.same("the stack of ring " + ring + " in a page that is not open",
                        pushing == 1 ? b.x.push(1) : b.x.read(1, 690), ring < 3 ? 0 : Bench.fault(14, 5 + 2 * pushing));
                due.same("the fault address", b.x.register(10), ring < 3 ? 0 : pushing == 1 ? 698 : 690);
            }
        }
        Bench b = new Bench().paged().toRing(3);
        b.setPage(10, 5);
        b.x.pages(1, true);
        due.same("ring 3 pops from a page that is not writable", b.x.pop(), 0);
        due.same("but does not push there", b.x.push(1), Bench.fault(14, 7));
    }

    private static void loadNullData(Due due) {
        due.sentence("DS: NULL is taken as it is");
        for (int selector = 0; selector < 4; selector++) {
            for (int ring = 0; ring < 4; ring++) {
                Bench b = new Bench().toRing(ring);
                b.x.load(2, Bench.data(3));
                b.put(0, Bench.descriptor(1, 2, Bench.TASK, 0));
                due.same("DS that is " + selector + " in ring " + ring, b.x.load(2, selector), 0);
                due.same("its selector", b.x.register(2), selector);
                due.same("what it is", b.held(2), "0 0 0 0");
                due.same("IP", b.x.register(4), 42);
            }
        }
        RingMachine x = new RingMachine();
        due.same("with COUNT 0", x.load(2, 1), 0);
        due.same("DS", x.register(2), 1);
    }

    private static void loadData(Due due) {
        due.sentence("GENERAL with its code if it is neither code nor data, or, unless it is CONFORMING,"
                + " its level is less than the ring or the RPL; MISSING with its code.");
        for (int n = 0; n < 4 * 4 * 4 * 16 * 2; n++) {
            int ring = n % 4;
            int rpl = n / 4 % 4;
            int level = n / 16 % 4;
            int kind = n / 64 % 16;
            boolean present = n < 1024;
            Bench b = new Bench().toRing(ring);
            long descriptor = Bench.descriptor(33, 44, kind, level);
            b.put(FREE, present ? descriptor : Bench.absent(descriptor));
            boolean allowed = kind == Bench.CONFORMING
                    || (kind == Bench.CODE || kind == Bench.READ_ONLY || kind == Bench.DATA)
                    && level >= ring && level >= rpl;
            int before = b.x.register(2);
            String what = "DS of kind " + kind + ", level " + level + ", RPL " + rpl + " in ring " + ring
                    + (present ? "" : ", not present");
            due.same(what, b.x.load(2, Bench.select(FREE, rpl)),
                    !allowed ? Bench.general(4 * FREE) : present ? 0 : Bench.fault(11, 4 * FREE));
            boolean taken = allowed && present;
            due.same(what + ": DS", b.x.register(2), taken ? Bench.select(FREE, rpl) : before);
            if (taken) {
                due.same(what + ": what it is", b.held(2), "33 44 " + kind + " " + level);
            }
        }
    }

    private static void loadDataOrder(Due due) {
        due.sentence("otherwise it is looked up; GENERAL with its code if it is neither code nor data");
        for (int rpl = 0; rpl < 4; rpl++) {
            Bench b = new Bench();
            due.same("an index of COUNT", b.x.load(2, Bench.select(Bench.COUNT, rpl)), Bench.general(4 * Bench.COUNT));
            due.same("DS", b.x.register(2), 8);
        }
    }

    private static void loadNullStack(Due due) {
        due.sentence("SS: NULL: GENERAL with 0");
        for (int ring = 0; ring < 4; ring++) {
            Bench b = new Bench().toRing(ring);
            b.put(0, Bench.descriptor(0, 4095, Bench.DATA, ring));
            due.same("SS that is " + ring + " in ring " + ring, b.x.load(1, ring), Bench.general(0));
            due.same("it is the fault's", b.x.register(4), 813);
        }
    }

    private static void loadStack(Due due) {
        due.sentence("GENERAL with its code if RPL or level is not the ring, or it isn't data (kind 4);"
                + " STACK with its code if it isn't present.");
        for (int n = 0; n < 4 * 4 * 4 * 16 * 2; n++) {
            int ring = n % 4;
            int rpl = n / 4 % 4;
            int level = n / 16 % 4;
            int kind = n / 64 % 16;
            boolean present = n < 1024;
            Bench b = new Bench().toRing(ring);
            long descriptor = Bench.descriptor(33, 4044, kind, level);
            b.put(FREE, present ? descriptor : Bench.absent(descriptor));
            boolean allowed = rpl == ring && level == ring && kind == Bench.DATA;
            String what = "SS of kind " + kind + ", level " + level + ", RPL " + rpl + " in ring " + ring
                    + (present ? "" : ", not present");
            due.same(what, b.x.load(1, Bench.select(FREE, rpl)),
                    !allowed ? Bench.general(4 * FREE) : present ? 0 : Bench.fault(12, 4 * FREE));
            boolean taken = allowed && present;
            due.same(what + ": SS", b.x.register(1), taken ? Bench.select(FREE, rpl) : 8);
            due.same(what + ": what it is", b.held(1), taken ? "33 4044 4 " + level : "0 4095 4 0");
        }
    }

    private static void loadStackOrder(Due due) {
        due.sentence("SS: NULL: GENERAL with 0; looked up");
        Bench b = new Bench().paged().toRing(3);
        b.setPage(5, 6);
        b.x.pages(1, true);
        due.same("SS with a wrong RPL is looked up all the same", b.x.load(1, 4 * FREE), Bench.fault(14, 0));
        due.same("an index of COUNT", new Bench().x.load(1, 4 * Bench.COUNT), Bench.general(4 * Bench.COUNT));
    }

    private static void loadKeeps(Due due) {
        due.sentence("An instruction: segment s (1 SS, 2 DS) is loaded."
                + " [...] REGISTERS: the segments CS, SS, DS, each a selector and what was looked up for it"
                + " (DS may be NULL; at first");
        Bench b = new Bench();
        b.put(FREE, Bench.descriptor(1, 4000, Bench.DATA, 0));
        due.same("a load of SS", b.x.load(1, 4 * FREE), 0);
        due.same("SP and DS stay", b.state(), "4 " + 4 * FREE + " 8 512 1 0 0");
        due.same("a load of DS", b.x.load(2, 4 * FREE), 0);
        due.same("the others stay", b.state(), "4 " + 4 * FREE + " " + 4 * FREE + " 512 2 0 0");
        b.put(FREE, 0L);
        due.same("what was looked up stays when the table changes", b.held(2), "1 4000 4 0");
        due.same("a read", b.x.read(2, 700), 0);
        due.same("a load that reads the new descriptor", b.x.load(2, 4 * FREE), Bench.general(4 * FREE));
    }

    private static void read(Due due) {
        due.sentence("An instruction: a word is read in segment s (0 CS, 1 SS, 2 DS) into the ACCUMULATOR.");
        Bench b = new Bench();
        b.put(FREE, Bench.descriptor(700, 99, Bench.DATA, 0));
        b.put(OTHER, Bench.descriptor(800, 99, Bench.CODE, 0));
        b.put(OTHER + 1, Bench.descriptor(900, 599, Bench.DATA, 0));
        b.x.load(2, 4 * FREE);
        b.x.far(4 * OTHER, 0, false);
        b.x.load(1, 4 * (OTHER + 1));
        for (int s = 0; s < 3; s++) {
            b.setWord(s == 0 ? 806 : s == 1 ? 906 : 706, 0xFFF0 + s);
            due.same("a read in segment " + s, b.x.read(s, 6), 0);
            due.same("the accumulator", b.x.register(11), 0xFFF0 + s);
        }
        b.setWord(706, 0);
        b.x.read(2, 6);
        due.same("a word of 0", b.x.register(11), 0);
    }

    private static void write(Due due) {
        due.sentence("An instruction: a word is written.");
        Bench b = new Bench();
        b.x.poke(699, 1);
        b.x.poke(702, 2);
        due.same("a write", b.x.write(2, 700, 65535), 0);
        due.same("the word", b.word(700), 65535);
        due.same("the byte ahead", b.x.peek(699), 1);
        due.same("the byte behind", b.x.peek(702), 2);
        due.same("registers", b.state(), "4 8 8 512 1 0 0");
        due.same("the accumulator", b.x.register(11), 0);
    }

    private static void push(Due due) {
        due.sentence("An instruction: a word is pushed.");
        Bench b = new Bench();
        b.setWord(508, 3);
        due.same("a push", b.x.push(0x1234), 0);
        due.same("the word", b.word(510), 0x1234);
        due.same("the word behind", b.word(512), 800);
        due.same("the word ahead", b.word(508), 3);
        due.same("registers", b.state(), "4 8 8 510 1 0 0");
    }

    private static void pop(Due due) {
        due.sentence("An instruction: a word is popped into the accumulator.");
        Bench b = new Bench();
        b.push(1, 65535);
        due.same("a pop", b.x.pop(), 0);
        due.same("the accumulator", b.x.register(11), 65535);
        due.same("another pop", b.x.pop(), 0);
        due.same("the accumulator", b.x.register(11), 1);
        due.same("the words stay in memory", b.word(508), 65535);
        due.same("registers", b.state(), "4 8 8 512 4 0 0");
    }
}
