/** Promise 13: back. */
public final class BackTest {
    private static final int FREE = Bench.FREE;
    private static final int OTHER = Bench.FREE + 1;

    public static void main(String[] args) {
        Due due = new Due();
        sameRing(due);
        selectors(due);
        outwards(due);
        outerStacks(due);
        data(due);
        limits(due);
        flags(due);
        whenDown(due);
        due.finish();
    }

    private static void sameRing(Due due) {
        for (int ring = 0; ring < 4; ring++) {
            Bench b = new Bench().toRing(ring);
            b.put(FREE, Bench.descriptor(3, 400, Bench.CODE, ring));
            b.push(99, Bench.select(FREE, ring), 300);
            int sp = b.x.register(3);
            due.same("a return in ring " + ring, b.x.back(), 0);
            due.same("registers", b.state(), Bench.select(FREE, ring) + " " + b.x.register(1) + " "
                    + b.x.register(2) + " " + (sp + 4) + " 300 0 " + ring);
            due.same("CS", b.held(0), "3 400 1 " + ring);
        }
    }

    /** A return from ring 1 to this selector. */
    private static void selector(Due due, String what, int selector, long descriptor, int want) {
        Bench b = new Bench().toRing(1);
        b.put(0, Bench.descriptor(0, 4095, Bench.CONFORMING, 0));
        b.put(FREE, descriptor);
        b.push(Bench.data(selector & 3), 600, selector, 300);
        due.same(what, b.x.back(), want);
        due.same(what + ": IP", b.x.register(4), want == 0 ? 300 : 800 + want / 65536);
        if (want == 0) {
            due.same(what + ": CS", b.x.register(0), selector);
            due.same(what + ": RING", b.x.register(6), selector & 3);
        }
    }

    private static void selectors(Due due) {
        int general = Bench.general(4 * FREE);
        for (int rpl = 0; rpl < 4; rpl++) {
            selector(due, "a return to " + rpl, rpl, 0L, Bench.general(0));
            for (int level = 0; level < 4; level++) {
                int at = Bench.select(FREE, rpl);
                String text = " of level " + level + " with RPL " + rpl;
                selector(due, "code" + text, at, Bench.descriptor(0, 400, Bench.CODE, level),
                        rpl >= 1 && level == rpl ? 0 : general);
                selector(due, "conforming" + text, at, Bench.descriptor(0, 400, Bench.CONFORMING, level),
                        rpl >= 1 && level <= rpl ? 0 : general);
            }
        }
        for (int kind = 3; kind < 16; kind++) {
            selector(due, "kind " + kind, Bench.select(FREE, 1), Bench.descriptor(0, 400, kind, 1), general);
        }
        selector(due, "code that is not present", Bench.select(FREE, 1),
                Bench.absent(Bench.descriptor(0, 0, Bench.CODE, 1)), Bench.fault(11, 4 * FREE));
        selector(due, "code of a wrong level that is not present", Bench.select(FREE, 1),
                Bench.absent(Bench.descriptor(0, 0, Bench.CODE, 2)), general);
        selector(due, "an index of COUNT", Bench.select(Bench.COUNT, 1), 0L, Bench.general(4 * Bench.COUNT));
        selector(due, "an index of COUNT with a lower RPL", Bench.select(Bench.COUNT, 0), 0L,
                Bench.general(4 * Bench.COUNT));
    }

    private static void outwards(Due due) {
        for (int from = 0; from < 3; from++) {
            for (int to = from + 1; to < 4; to++) {
                Bench b = new Bench().toRing(from);
                b.push(Bench.data(to), 642, Bench.code(to), 77);
                due.same("a return from ring " + from + " to " + to, b.x.back(), 0);
                due.same("registers", b.state(), Bench.code(to) + " " + Bench.data(to) + " 0 642 77 0 " + to);
                due.same("SS", b.held(1), "0 4095 4 " + to);
                due.same("DS", b.held(2), "0 0 0 0");
            }
        }
    }

    private static void outerStack(Due due, String what, int selector, long descriptor, int want) {
        Bench b = new Bench();
        b.put(0, descriptor);
        b.put(FREE, descriptor);
        b.push(selector, 600, Bench.code(2), 300);
        due.same(what, b.x.back(), want);
        due.same(what + ": RING", b.x.register(6), want == 0 ? 2 : 0);
        due.same(what + ": SP", b.x.register(3), want == 0 ? 600 : 504 - 8);
    }

    private static void outerStacks(Due due) {
        int general = Bench.general(4 * FREE);
        long good = Bench.descriptor(0, 4095, Bench.DATA, 2);
        int outer = Bench.select(FREE, 2);
        for (int rpl = 0; rpl < 4; rpl++) {
            outerStack(due, "outer SS " + rpl, rpl, good, Bench.general(0));
            outerStack(due, "outer SS with RPL " + rpl, Bench.select(FREE, rpl), good, rpl == 2 ? 0 : general);
            outerStack(due, "outer SS of level " + rpl, outer, Bench.descriptor(0, 4095, Bench.DATA, rpl),
                    rpl == 2 ? 0 : general);
        }
        for (int kind = 0; kind < 10; kind++) {
            outerStack(due, "outer SS of kind " + kind, outer, Bench.descriptor(0, 4095, kind, 2),
                    kind == Bench.DATA ? 0 : general);
        }
        outerStack(due, "outer SS that is not present", outer, Bench.absent(good), Bench.fault(12, 4 * FREE));
        outerStack(due, "outer SS of a wrong level that is not present", outer,
                Bench.absent(Bench.descriptor(0, 4095, Bench.DATA, 3)), general);
        outerStack(due, "outer SS beyond COUNT", Bench.select(Bench.COUNT, 2), good, Bench.general(4 * Bench.COUNT));
    }

    private static void kept(Due due, String what, long descriptor, boolean kept) {
        Bench b = new Bench();
        b.put(FREE, descriptor);
        b.x.load(2, 4 * FREE);
        String held = b.held(2);
        b.toRing(2);
        due.same(what, b.x.register(2), kept ? 4 * FREE : 0);
        due.same(what, b.held(2), kept ? held : "0 0 0 0");
    }

    private static void data(Due due) {
        for (int level = 0; level < 4; level++) {
            kept(due, "data of level " + level, Bench.descriptor(5, 50, Bench.DATA, level), level >= 2);
            kept(due, "read-only data of level " + level, Bench.descriptor(5, 50, Bench.READ_ONLY, level), level >= 2);
            kept(due, "code of level " + level, Bench.descriptor(5, 50, Bench.CODE, level), level >= 2);
            kept(due, "conforming of level " + level, Bench.descriptor(5, 50, Bench.CONFORMING, level), true);
        }
        Bench b = new Bench();
        b.x.load(2, 3);
        b.toRing(2);
        due.same("a NULL selector stays", b.x.register(2), 3);
        Bench same = new Bench();
        same.put(OTHER, Bench.descriptor(1200, 99, Bench.TASK, 3));
        same.taskState(1200, 60, 0, 700, Bench.code(3), Bench.data(3), Bench.data(0), 3, 0);
        same.x.far(4 * OTHER, 0, false);
        same.push(Bench.code(3), 60);
        due.same("a return that stays in its ring", same.x.back(), 0);
        due.same("leaves DS alone", same.x.register(2), Bench.data(0));
    }

    private static void limits(Due due) {
        Bench b = new Bench();
        b.put(FREE, Bench.descriptor(0, 300, Bench.CODE, 0));
        b.push(4 * FREE, 301);
        due.same("a return beyond the limit", b.x.back(), Bench.general(0));
        due.same("SP is as before, with four words pushed", b.x.register(3), 508 - 8);
        b.push(4 * FREE, 300);
        due.same("a return to the limit", b.x.back(), 0);
        Bench outer = new Bench();
        outer.put(FREE, Bench.descriptor(0, 300, Bench.CODE, 3));
        outer.push(Bench.data(3), 600, Bench.select(FREE, 3), 301);
        due.same("a return outwards beyond the limit", outer.x.back(), Bench.general(0));
        due.same("registers", outer.state(), "4 8 8 " + (504 - 8) + " 813 0 0");
        Bench empty = new Bench();
        empty.put(FREE, Bench.descriptor(0, 512, Bench.DATA, 0));
        empty.x.load(1, 4 * FREE);
        due.same("nothing to pop", empty.x.back(), Bench.fault(12, 0));
        empty.x.pop();
        empty.x.pop();
        empty.x.pop();
        empty.x.pop();
        due.same("SP", empty.x.register(3), 512);
        empty.x.push(4);
        due.same("IP alone to pop", empty.x.back(), Bench.fault(12, 0));
    }

    private static void flags(Due due) {
        Bench b = new Bench();
        b.push(3, 4, 60);
        b.x.end();
        due.same("FLAGS", b.x.register(5), 3);
        b.push(4, 61);
        due.same("a return when NESTED is set", b.x.back(), 0);
        due.same("registers", b.state(), "4 8 8 512 61 3 0");
    }

    private static void whenDown(Due due) {
        due.same("back when down", Bench.down().back(), -1);
    }
}
