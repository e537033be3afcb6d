/** The sentences on returns (promise 13) and on ends of traps (promise 15), each at its edges. */
public final class ReturnEdgesTest {
    private static final int FREE = Bench.FREE;
    private static final int OTHER = Bench.FREE + 1;
    private static final int STACK = Bench.fault(12, 0);

    public static void main(String[] args) {
        Due due = new Due();
        pops(due);
        popsOfEnds(due);
        popsWrap(due);
        popsByTheRing(due);
        nulls(due);
        lowerRpl(due);
        lookedUp(due);
        anyDescriptor(due);
        outerPops(due);
        outerNull(due);
        outerStacks(due);
        outerLookedUp(due);
        outerOrder(due);
        limits(due);
        enteredWithRpl(due);
        stackOnlyWhenTheRingGrew(due);
        dataTaken(due);
        dataKeptInTheRing(due);
        nullDataKept(due);
        backLeavesFlags(due);
        endFlags(due);
        endFlagsBits(due);
        endNested(due);
        whenDown(due);
        due.finish();
    }

    private static int go(Bench b, boolean end) {
        return end ? b.x.end() : b.x.back();
    }

    /** Pushes what a return, or an end with FLAGS 0, to this selector needs. */
    private static void frame(Bench b, boolean end, int selector, int ip) {
        if (end) {
            b.x.push(0);
        }
        b.push(selector, ip);
    }

    private static void pops(Due due) {
        due.sentence("A RETURN: IP and CS are popped (for an end of a trap FLAGS, too).");
        for (int room = 0; room < 6; room++) {
            Bench b = new Bench();
            b.put(FREE, Bench.descriptor(0, 699 + room, Bench.DATA, 3));
            b.setWord(700, 300);
            b.setWord(702, Bench.code(3));
            b.toStack(Bench.select(FREE, 3), 700);
            due.same("a return with " + room + " bytes on the stack", b.x.back(), room < 4 ? STACK : 0);
            due.same("IP", b.x.register(4), room < 4 ? 812 : 300);
            due.same("SP", room < 4 ? b.word(Bench.innerSp(0) - 4) : b.x.register(3), room < 4 ? 700 : 704);
        }
    }

    private static void popsOfEnds(Due due) {
        due.sentence("A RETURN: IP and CS are popped (for an end of a trap FLAGS, too).");
        for (int room = 0; room < 8; room++) {
            Bench b = new Bench();
            b.put(FREE, Bench.descriptor(0, 699 + room, Bench.DATA, 3));
            b.setWord(700, 300);
            b.setWord(702, Bench.code(3));
            b.setWord(704, 1);
            b.toStack(Bench.select(FREE, 3), 700);
            due.same("an end with " + room + " bytes on the stack", b.x.end(), room < 6 ? STACK : 0);
            due.same("IP", b.x.register(4), room < 6 ? 812 : 300);
            due.same("FLAGS", b.x.register(5), room < 6 ? 0 : 1);
            due.same("SP", room < 6 ? b.word(Bench.innerSp(0) - 4) : b.x.register(3), room < 6 ? 700 : 706);
        }
        // FLAGS are popped ahead of looking at the selector.
        Bench b = new Bench();
        b.put(FREE, Bench.descriptor(0, 703, Bench.DATA, 3));
        b.toStack(Bench.select(FREE, 3), 700);
        due.same("an end without FLAGS to NULL", b.x.end(), STACK);
    }

    private static void popsWrap(Due due) {
        due.sentence("A RETURN: IP and CS are popped (for an end of a trap FLAGS, too).");
        Bench b = new Bench();
        b.put(FREE, Bench.descriptor(1500, 65535, Bench.DATA, 3));
        b.toStack(Bench.select(FREE, 3), 65534);
        b.setWord(1498, 300);
        b.setWord(1500, Bench.code(3));
        due.same("a return round the end of the stack", b.x.back(), 0);
        due.same("SP", b.x.register(3), 2);
        due.same("IP", b.x.register(4), 300);
    }

    private static void popsByTheRing(Due due) {
        due.sentence("A RETURN: IP and CS are popped (for an end of a trap FLAGS, too).");
        for (int ring = 1; ring < 4; ring++) {
            Bench b = new Bench().paged().toRing(ring);
            b.push(Bench.code(ring), 300);
            b.setPage(10, 1);
            b.x.pages(1, true);
            due.same("a return of ring " + ring + " from a page that is not open", b.x.back(),
                    ring == 3 ? Bench.fault(14, 5) : 0);
            due.same("the page is only read", b.bitsOfPage(10), ring == 3 ? 1 : 33);
        }
        for (int ring = 1; ring < 3; ring++) {
            Bench b = new Bench().paged().toRing(ring);
            b.push(Bench.data(3), 600, 1, Bench.code(3), 300);
            b.setPage(10, 1);
            b.x.pages(1, true);
            due.same("an end of ring " + ring + " outwards from a page that is not open", b.x.end(), 0);
            due.same("SP", b.x.register(3), 600);
        }
    }

    private static void nulls(Due due) {
        due.sentence("The selector: NULL: GENERAL with 0");
        for (int selector = 0; selector < 4; selector++) {
            for (int end = 0; end < 2; end++) {
                Bench b = new Bench().toRing(1);
                b.put(0, Bench.descriptor(0, 4095, Bench.CODE, selector));
                b.push(Bench.data(3), 600);
                frame(b, end == 1, selector, 300);
                due.same("a return to " + selector, go(b, end == 1), Bench.general(0));
            }
        }
    }

    private static void lowerRpl(Due due) {
        due.sentence("RPL less than the ring: GENERAL with its code; looked up");
        for (int ring = 1; ring < 4; ring++) {
            for (int rpl = 0; rpl < ring; rpl++) {
                Bench b = new Bench().paged().toRing(ring);
                b.push(Bench.select(FREE, rpl), 300);
                b.put(FREE, Bench.absent(Bench.descriptor(0, 4095, Bench.CONFORMING, 0)));
                b.setPage(5, 6);
                b.x.pages(1, true);
                due.same("a return from ring " + ring + " to " + rpl, b.x.back(), Bench.general(4 * FREE));
                due.same("its descriptor is not read", b.bitsOfPage(5), 6);
            }
        }
    }

    private static void lookedUp(Due due) {
        due.sentence("RPL less than the ring: GENERAL with its code; looked up");
        for (int rpl = 0; rpl < 4; rpl++) {
            for (int end = 0; end < 2; end++) {
                Bench b = new Bench();
                b.push(Bench.data(3), 600);
                frame(b, end == 1, Bench.select(Bench.COUNT, rpl), 300);
                due.same("a return to an index of COUNT", go(b, end == 1), Bench.general(4 * Bench.COUNT));
            }
        }
    }

    private static void anyDescriptor(Due due) {
        due.sentence("CODE whose level is the RPL, or CONFORMING whose level is not greater:"
                + " otherwise GENERAL with its code; MISSING.");
        for (int n = 0; n < 4 * 4 * 4 * 16 * 4; n++) {
            int ring = n % 4;
            int rpl = n / 4 % 4;
            int level = n / 16 % 4;
            int kind = n / 64 % 16;
            boolean present = n / 1024 % 2 == 0;
            boolean end = n / 2048 == 1;
            Bench b = new Bench().toRing(ring);
            long descriptor = Bench.descriptor(1, 400, kind, level);
            b.put(FREE, present ? descriptor : Bench.absent(descriptor));
            b.push(Bench.data(rpl), 600);
            frame(b, end, Bench.select(FREE, rpl), 300);
            int sp = b.x.register(3);
            boolean fits = rpl >= ring && (kind == Bench.CODE && level == rpl
                    || kind == Bench.CONFORMING && level <= rpl);
            int want = !fits ? Bench.general(4 * FREE) : present ? 0 : Bench.fault(11, 4 * FREE);
            String what = (end ? "an end" : "a return") + " from ring " + ring + " to kind " + kind + ", level " + level
                    + ", RPL " + rpl + (present ? "" : ", not present");
            due.same(what, go(b, end), want);
            due.same(what + ": IP", b.x.register(4), want == 0 ? 300 : 800 + want / 65536);
            if (want == 0) {
                due.same(what + ": CS", b.x.register(0), Bench.select(FREE, rpl));
                due.same(what + ": RING", b.x.register(6), rpl);
                due.same(what + ": SP", b.x.register(3), rpl > ring ? 600 : sp + (end ? 6 : 4));
                due.same(what + ": what CS is", b.held(0), "1 400 " + kind + " " + level);
            }
        }
    }

    private static void outerPops(Due due) {
        due.sentence("If RPL is greater than the ring: SP and SS are popped, too");
        for (int room = 0; room < 6; room++) {
            Bench b = new Bench();
            b.put(FREE, Bench.descriptor(0, 703 + room, Bench.DATA, 2));
            b.setWord(700, 300);
            b.setWord(702, Bench.code(3));
            b.setWord(704, 600);
            b.setWord(706, Bench.data(3));
            b.toStack(Bench.select(FREE, 2), 700);
            due.same("a return outwards with " + room + " bytes more", b.x.back(), room < 4 ? STACK : 0);
            due.same("SP", room < 4 ? b.word(Bench.innerSp(0) - 4) : b.x.register(3), room < 4 ? 700 : 600);
        }
        Bench same = new Bench();
        same.put(FREE, Bench.descriptor(0, 703, Bench.DATA, 2));
        same.setWord(700, 300);
        same.setWord(702, Bench.code(2));
        same.toStack(Bench.select(FREE, 2), 700);
        due.same("a return that stays in its ring pops no more", same.x.back(), 0);
    }

    private static void outerNull(Due due) {
        due.sentence("that SS: NULL: GENERAL with 0");
        for (int selector = 0; selector < 4; selector++) {
            for (int end = 0; end < 2; end++) {
                Bench b = new Bench();
                b.put(0, Bench.descriptor(0, 4095, Bench.DATA, 2));
                b.push(selector, 600);
                frame(b, end == 1, Bench.code(2), 300);
                due.same("an outer SS that is " + selector, go(b, end == 1), Bench.general(0));
                due.same("RING", b.x.register(6), 0);
            }
        }
    }

    private static void outerStacks(Due due) {
        due.sentence("its RPL the one of CS, data of that level: otherwise GENERAL with its code;"
                + " STACK with its code if it isn't present.");
        for (int n = 0; n < 3 * 4 * 4 * 16 * 2; n++) {
            int ring = 1 + n % 3;
            int rpl = n / 3 % 4;
            int level = n / 12 % 4;
            int kind = n / 48 % 16;
            boolean present = n < 768;
            Bench b = new Bench();
            long descriptor = Bench.descriptor(3, 4000, kind, level);
            b.put(FREE, present ? descriptor : Bench.absent(descriptor));
            b.push(Bench.select(FREE, rpl), 600, Bench.code(ring), 300);
            boolean fits = rpl == ring && kind == Bench.DATA && level == ring;
            int want = !fits ? Bench.general(4 * FREE) : present ? 0 : Bench.fault(12, 4 * FREE);
            String what = "a return to ring " + ring + " with SS of kind " + kind + ", level " + level + ", RPL " + rpl
                    + (present ? "" : ", not present");
            due.same(what, b.x.back(), want);
            due.same(what + ": SS", b.x.register(1), want == 0 ? Bench.select(FREE, ring) : 8);
            due.same(what + ": RING", b.x.register(6), want == 0 ? ring : 0);
            due.same(what + ": what SS is", b.held(1), want == 0 ? "3 4000 4 " + ring : "0 4095 4 0");
        }
        // Conforming code may have a lower level, but SS has to be of the ring that is returned to.
        for (int level = 0; level < 4; level++) {
            Bench b = new Bench();
            b.put(OTHER, Bench.descriptor(0, 4095, Bench.CONFORMING, 1));
            b.put(FREE, Bench.descriptor(0, 4095, Bench.DATA, level));
            b.push(Bench.select(FREE, 2), 600, Bench.select(OTHER, 2), 300);
            due.same("conforming code with SS of level " + level, b.x.back(), level == 2 ? 0 : Bench.general(4 * FREE));
        }
    }

    private static void outerLookedUp(Due due) {
        due.sentence("its RPL the one of CS, data of that level: otherwise GENERAL with its code");
        for (int rpl = 0; rpl < 4; rpl++) {
            Bench b = new Bench();
            b.push(Bench.select(Bench.COUNT, rpl), 600, Bench.code(2), 300);
            due.same("an outer SS of an index of COUNT", b.x.back(), Bench.general(4 * Bench.COUNT));
        }
    }

    private static void outerOrder(Due due) {
        due.sentence("MISSING. If RPL is greater than the ring: SP and SS are popped, too");
        Bench b = new Bench();
        b.put(FREE, Bench.absent(Bench.descriptor(0, 99, Bench.CODE, 3)));
        b.push(0, 600, Bench.select(FREE, 3), 300);
        due.same("CS is looked at ahead of SS", b.x.back(), Bench.fault(11, 4 * FREE));
        for (int kind = Bench.CODE; kind <= Bench.DATA; kind += 3) {
            Bench few = new Bench();
            few.put(OTHER, Bench.descriptor(0, 703, Bench.DATA, 2));
            few.put(FREE, Bench.absent(Bench.descriptor(0, 99, kind, 3)));
            few.setWord(702, Bench.select(FREE, 3));
            few.toStack(Bench.select(OTHER, 2), 700);
            due.same("CS is looked at ahead of popping SP and SS", few.x.back(),
                    Bench.fault(kind == Bench.CODE ? 11 : 13, 4 * FREE));
        }
        Bench late = new Bench();
        late.put(FREE, Bench.absent(Bench.descriptor(0, 4095, Bench.DATA, 3)));
        late.push(Bench.select(FREE, 3), 600, Bench.code(3), 4096);
        due.same("SS is looked at ahead of the offset", late.x.back(), Bench.fault(12, 4 * FREE));
    }

    private static void limits(Due due) {
        due.sentence("TO ENTER code at an offset by a selector (looked up): GENERAL with 0 if the offset is greater"
                + " than its limit");
        for (int ring = 0; ring < 4; ring++) {
            for (int offset = 298; offset < 302; offset++) {
                for (int end = 0; end < 2; end++) {
                    Bench b = new Bench();
                    b.put(FREE, Bench.descriptor(0, 299, Bench.CODE, ring));
                    b.push(Bench.data(ring), 600);
                    frame(b, end == 1, Bench.select(FREE, ring), offset);
                    boolean inside = offset <= 299;
                    due.same("a return to " + offset + ", limit 299", go(b, end == 1), inside ? 0 : Bench.general(0));
                    due.same("RING", b.x.register(6), inside ? ring : 0);
                    due.same("IP", b.x.register(4), inside ? offset : 813);
                }
            }
        }
    }

    private static void enteredWithRpl(Due due) {
        due.sentence("It is entered with the RPL as ring");
        for (int ring = 0; ring < 4; ring++) {
            for (int rpl = ring; rpl < 4; rpl++) {
                Bench b = new Bench().toRing(ring);
                b.put(FREE, Bench.descriptor(0, 4095, Bench.CONFORMING, 0));
                b.push(Bench.data(rpl), 600, Bench.select(FREE, rpl), 300);
                due.same("a return from ring " + ring + " to conforming code with RPL " + rpl, b.x.back(), 0);
                due.same("CS", b.x.register(0), Bench.select(FREE, rpl));
                due.same("RING", b.x.register(6), rpl);
            }
        }
    }

    private static void stackOnlyWhenTheRingGrew(Due due) {
        due.sentence("and if the ring grew, SS and SP are those popped");
        Bench b = new Bench().toRing(1);
        b.push(Bench.data(1), 600, Bench.code(1), 300);
        due.same("a return that stays in ring 1", b.x.back(), 0);
        due.same("registers", b.state(), Bench.code(1) + " " + Bench.data(1) + " 0 696 300 0 1");
        b.push(Bench.data(2), 65535, Bench.code(2), 301);
        due.same("a return to ring 2", b.x.back(), 0);
        due.same("registers", b.state(), Bench.code(2) + " " + Bench.data(2) + " 0 65535 301 0 2");
    }

    private static void dataTaken(Due due) {
        due.sentence("DS becomes NULL (its selector 0) if it isn't NULL or CONFORMING"
                + " and its level is less than the ring.");
        for (int ring = 1; ring < 4; ring++) {
            for (int kind = 1; kind < 5; kind++) {
                for (int level = 0; level < 4; level++) {
                    for (int end = 0; end < 2; end++) {
                        Bench b = new Bench();
                        b.put(FREE, Bench.descriptor(5, 50, kind, level));
                        b.x.load(2, 4 * FREE);
                        b.push(Bench.data(ring), 600);
                        frame(b, end == 1, Bench.code(ring), 300);
                        boolean kept = kind == Bench.CONFORMING || level >= ring;
                        due.same("a return to ring " + ring, go(b, end == 1), 0);
                        due.same("DS of kind " + kind + ", level " + level, b.x.register(2), kept ? 4 * FREE : 0);
                        due.same("what it is", b.held(2), kept ? "5 50 " + kind + " " + level : "0 0 0 0");
                    }
                }
            }
        }
    }

    private static void dataKeptInTheRing(Due due) {
        due.sentence("and if the ring grew, SS and SP are those popped, and DS becomes NULL (its selector 0)");
        Bench b = new Bench();
        b.put(FREE, Bench.descriptor(1200, 99, Bench.TASK, 3));
        b.taskState(1200, 60, 0, 700, Bench.code(3), Bench.data(3), Bench.data(0), 3, 0);
        b.x.far(4 * FREE, 0, false);
        b.push(Bench.code(3), 61);
        due.same("a return that stays in ring 3", b.x.back(), 0);
        due.same("DS of level 0 stays", b.held(2), "0 4095 4 0");
    }

    private static void nullDataKept(Due due) {
        due.sentence("DS becomes NULL (its selector 0) if it isn't NULL or CONFORMING"
                + " and its level is less than the ring.");
        for (int selector = 0; selector < 4; selector++) {
            Bench b = new Bench();
            b.x.load(2, selector);
            b.toRing(3);
            due.same("DS that is " + selector, b.x.register(2), selector);
            due.same("what it is", b.held(2), "0 0 0 0");
        }
    }

    private static void backLeavesFlags(Due due) {
        due.sentence("An instruction: a return.");
        for (int flags = 0; flags < 4; flags++) {
            Bench b = new Bench().toFlags(flags);
            b.push(4, 300);
            due.same("a return with FLAGS " + flags, b.x.back(), 0);
            due.same("registers", b.state(), "4 8 8 512 300 " + flags + " 0");
        }
    }

    private static void endFlags(Due due) {
        due.sentence("An instruction: the end of a trap: a return with FLAGS (the popped ones, bits 0 and 1)");
        for (int from = 0; from < 4; from++) {
            for (int to = from; to < 4; to++) {
                Bench b = new Bench().toRing(from);
                int sp = b.x.register(3);
                b.push(Bench.data(to), 600, 1, Bench.code(to), 300);
                due.same("an end from ring " + from + " to " + to, b.x.end(), 0);
                due.same("FLAGS", b.x.register(5), 1);
                due.same("SP", b.x.register(3), to > from ? 600 : sp - 4);
                due.same("IP", b.x.register(4), 300);
            }
        }
    }

    private static void endFlagsBits(Due due) {
        due.sentence("a return with FLAGS (the popped ones, bits 0 and 1)");
        for (int flags : new int[] {0, 1, 2, 3, 4, 5, 6, 7, 256, 65532, 65533, 65534, 65535}) {
            for (int before = 0; before < 2; before++) {
                Bench b = new Bench().toFlags(before);
                b.push(flags, 4, 300);
                due.same("an end with FLAGS " + flags, b.x.end(), 0);
                due.same("FLAGS", b.x.register(5), flags % 4);
            }
        }
    }

    private static void endNested(Due due) {
        due.sentence("or, if NESTED is set, a switch by a return to the task whose selector is the word at TASK STATE");
        for (int flags = 0; flags < 4; flags++) {
            Bench b = new Bench().toFlags(flags);
            b.put(FREE, Bench.descriptor(1200, 99, Bench.BUSY, 0));
            b.taskState(1200, 77, 0, 640, 4, 8, 8, 0, 0);
            b.setWord(Bench.STATE, 4 * FREE);
            b.push(0, 4, 300);
            due.same("an end with FLAGS " + flags, b.x.end(), 0);
            due.same("IP", b.x.register(4), flags < 2 ? 300 : 77);
            due.same("SP", b.x.register(3), flags < 2 ? 512 : 640);
            due.same("TR", b.x.register(7), flags < 2 ? 0 : 4 * FREE);
        }
    }

    private static void whenDown(Due due) {
        due.sentence("-1, and nothing is done, when the machine was DOWN");
        due.same("back when down", Bench.down().back(), -1);
        due.same("end when down", Bench.down().end(), -1);
    }
}
