/** Promise 7: load. */
public final class LoadTest {
    private static final int FREE = Bench.FREE;

    public static void main(String[] args) {
        Due due = new Due();
        wrongSegments(due);
        data(due);
        dataNull(due);
        dataRefused(due);
        dataLevels(due);
        conforming(due);
        stack(due);
        stackRefused(due);
        numbers(due);
        due.finish();
    }

    private static void wrongSegments(Due due) {
        Bench b = new Bench();
        String state = b.state();
        for (int s : new int[] {0, 3, -1, Integer.MIN_VALUE, Integer.MAX_VALUE}) {
            due.same("load of segment " + s, b.x.load(s, Bench.data(0)), -2);
        }
        due.same("registers after wrong segments", b.state(), state);
        RingMachine down = Bench.down();
        due.same("load when down", down.load(2, 8), -1);
        due.same("load of a wrong segment when down", down.load(0, 8), -1);
    }

    private static void data(Due due) {
        int[] kinds = {Bench.CODE, Bench.CONFORMING, Bench.READ_ONLY, Bench.DATA};
        for (int kind : kinds) {
            Bench b = new Bench();
            b.put(FREE, Bench.descriptor(300 + kind, 200 + kind, kind, 2));
            due.same("load of DS with kind " + kind, b.x.load(2, Bench.select(FREE, 1)), 0);
            due.same("what it is", b.held(2), (300 + kind) + " " + (200 + kind) + " " + kind + " 2");
            due.same("registers", b.state(), "4 8 " + Bench.select(FREE, 1) + " 512 1 0 0");
        }
    }

    private static void dataNull(Due due) {
        for (int selector = 0; selector < 4; selector++) {
            Bench b = new Bench();
            b.put(0, Bench.descriptor(5, 50, Bench.DATA, 3));
            due.same("load of DS with " + selector, b.x.load(2, selector), 0);
            due.same("registers", b.state(), "4 8 " + selector + " 512 1 0 0");
            due.same("what it is", b.held(2), "0 0 0 0");
            due.same("a read in it", b.x.read(2, 0), Bench.general(0));
        }
    }

    private static void dataRefused(Due due) {
        for (int kind : new int[] {0, 5, 6, 7, 8, 9, 10, 15}) {
            Bench b = new Bench();
            b.put(FREE, Bench.absent(Bench.descriptor(0, 100, kind, 3)));
            due.same("load of DS with kind " + kind, b.x.load(2, Bench.select(FREE, 1)), Bench.general(4 * FREE));
            due.same("DS", b.x.register(2), 8);
            due.same("IP is the gate's", b.x.register(4), 813);
        }
        Bench b = new Bench();
        b.put(FREE, Bench.absent(Bench.descriptor(0, 100, Bench.DATA, 3)));
        due.same("load of DS that is not present", b.x.load(2, Bench.select(FREE, 2)), Bench.fault(11, 4 * FREE));
        due.same("DS", b.x.register(2), 8);
        due.same("an index of COUNT", b.x.load(2, Bench.select(Bench.COUNT, 3)), Bench.general(4 * Bench.COUNT));
    }

    private static void dataLevels(Due due) {
        for (int ring = 0; ring < 4; ring++) {
            for (int rpl = 0; rpl < 4; rpl++) {
                for (int level = 0; level < 4; level++) {
                    Bench b = new Bench().toRing(ring);
                    b.put(FREE, Bench.descriptor(0, 100, Bench.DATA, level));
                    boolean taken = level >= ring && level >= rpl;
                    due.same("DS of level " + level + " with RPL " + rpl + " in ring " + ring,
                            b.x.load(2, Bench.select(FREE, rpl)), taken ? 0 : Bench.general(4 * FREE));
                }
            }
        }
        Bench b = new Bench().toRing(3);
        b.put(FREE, Bench.absent(Bench.descriptor(0, 100, Bench.DATA, 2)));
        due.same("the level goes ahead of being present", b.x.load(2, 4 * FREE), Bench.general(4 * FREE));
    }

    private static void conforming(Due due) {
        Bench b = new Bench().toRing(3);
        b.put(FREE, Bench.descriptor(0, 100, Bench.CONFORMING, 0));
        due.same("conforming code of level 0 in ring 3", b.x.load(2, Bench.select(FREE, 3)), 0);
        b.put(FREE, Bench.descriptor(0, 100, Bench.CODE, 0));
        due.same("code of level 0 in ring 3", b.x.load(2, Bench.select(FREE, 3)), Bench.general(4 * FREE));
    }

    private static void stack(Due due) {
        for (int ring = 0; ring < 4; ring++) {
            Bench b = new Bench().toRing(ring);
            b.put(FREE, Bench.descriptor(10, 2000, Bench.DATA, ring));
            int sp = b.x.register(3);
            due.same("load of SS in ring " + ring, b.x.load(1, Bench.select(FREE, ring)), 0);
            due.same("what it is", b.held(1), "10 2000 4 " + ring);
            due.same("SS", b.x.register(1), Bench.select(FREE, ring));
            due.same("SP", b.x.register(3), sp);
            due.same("IP", b.x.register(4), 41);
        }
    }

    private static void refused(Due due, String what, long descriptor, int rpl, int want) {
        Bench b = new Bench().toRing(1);
        b.put(FREE, descriptor);
        due.same(what, b.x.load(1, Bench.select(FREE, rpl)), want);
    }

    private static void stackRefused(Due due) {
        for (int selector = 0; selector < 4; selector++) {
            Bench b = new Bench().toRing(selector);
            b.put(0, Bench.descriptor(5, 50, Bench.DATA, selector));
            due.same("load of SS with " + selector, b.x.load(1, selector), Bench.general(0));
        }
        int general = Bench.general(4 * FREE);
        refused(due, "SS with a lower RPL", Bench.descriptor(0, 99, Bench.DATA, 1), 0, general);
        refused(due, "SS with a greater RPL", Bench.descriptor(0, 99, Bench.DATA, 1), 2, general);
        refused(due, "SS with a lower level", Bench.descriptor(0, 99, Bench.DATA, 0), 1, general);
        refused(due, "SS with a greater level", Bench.descriptor(0, 99, Bench.DATA, 2), 1, general);
        for (int kind : new int[] {0, 1, 2, 3, 5, 6, 7, 12}) {
            refused(due, "SS of kind " + kind, Bench.descriptor(0, 99, kind, 1), 1, general);
        }
        refused(due, "SS of the wrong kind that is not present",
                Bench.absent(Bench.descriptor(0, 99, Bench.READ_ONLY, 1)), 1, general);
        refused(due, "SS that is not present",
                Bench.absent(Bench.descriptor(0, 99, Bench.DATA, 1)), 1, Bench.fault(12, 4 * FREE));
        due.same("SS with an index of COUNT", new Bench().x.load(1, 4 * Bench.COUNT), Bench.general(4 * Bench.COUNT));
    }

    private static void numbers(Due due) {
        Bench b = new Bench();
        due.same("a selector is taken mod 65536", b.x.load(2, 65536 * 3 + 8), 0);
        due.same("DS", b.x.register(2), 8);
        due.same("a negative selector too", b.x.load(2, 16 - 65536), 0);
        due.same("DS", b.x.register(2), 16);
        due.same("-1 is 65535", b.x.load(2, -1), Bench.general(65532));
        due.same("the index has 14 bits", b.x.load(1, 32768 + 8), Bench.general(32768 + 8));
        due.same("that of DS, too", b.x.load(2, 32768 + 8), Bench.general(32768 + 8));
        // Of the byte of the kind, and of the one of the level, other bits tell nothing.
        b.put(FREE, Bench.descriptor(1, 2, Bench.DATA, 1) | 0x7C_F0_0000_0000L);
        due.same("a descriptor with other bits set", b.x.load(2, 4 * FREE), 0);
        due.same("what it is", b.held(2), "1 2 4 1");
    }
}
