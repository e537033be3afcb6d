/** Promises 12 and 15: tasks, switched to by calls, jumps and returns. */
public final class TaskTest {
    private static final int NEW = Bench.FREE;
    private static final int OLD = Bench.FREE + 1;
    private static final int EXTRA = Bench.FREE + 2;
    private static final int STATE = 1200;
    private static final int OLD_STATE = 1300;

    public static void main(String[] args) {
        Due due = new Due();
        jump(due);
        call(due);
        end(due);
        levels(due);
        refused(due);
        kindBytes(due);
        registersTaken(due);
        endRefused(due);
        segmentsTaken(due);
        segmentsRefused(due);
        stateReadFirst(due);
        directorySwitched(due);
        faultsWhileSaving(due);
        flagsSaved(due);
        bySystem(due);
        marks(due);
        due.finish();
    }

    /** A bench with a task to switch to, whose state says ring 3. */
    private static Bench bench() {
        Bench b = new Bench();
        b.put(NEW, Bench.descriptor(STATE, 99, Bench.TASK, 3));
        b.put(OLD, Bench.descriptor(OLD_STATE, 99, Bench.TASK, 3));
        b.taskState(STATE, 50, 1, 700, Bench.code(3), Bench.data(3), Bench.data(3), 3, 7);
        b.taskState(OLD_STATE, 90, 0, 660, Bench.code(0), Bench.data(0), 0, 0, 5);
        for (int ring = 0; ring < 3; ring++) {
            b.innerStack(STATE, ring, Bench.innerSp(ring), Bench.data(ring));
            b.innerStack(OLD_STATE, ring, Bench.innerSp(ring), Bench.data(ring));
        }
        return b;
    }

    private static int kind(Bench b, int index) {
        return b.x.peek(Bench.TABLE + 8 * index + 4);
    }

    private static final String NEW_REGISTERS = Bench.code(3) + " " + Bench.data(3) + " " + Bench.data(3) + " 700 50";

    private static void jump(Due due) {
        Bench b = bench();
        b.x.pages(2, false);
        b.x.push(0);
        due.same("a jump to a task", b.x.far(Bench.select(NEW, 3), 9, false), 0);
        due.same("registers", b.state(), NEW_REGISTERS + " 1 3");
        due.same("TR", b.x.register(7), 4 * NEW);
        due.same("TASK STATE", b.x.register(8), STATE);
        due.same("DIRECTORY", b.x.register(9), 7);
        due.same("the old state", b.savedState(Bench.STATE), "2 0 510 4 8 8 0 2");
        due.same("it is busy", kind(b, NEW), Bench.BUSY);
        due.same("no link is written", b.word(STATE), 0);
        due.same("a jump back is to the old task", b.x.far(Bench.select(OLD, 3), 0, false), 0);
        due.same("the first is a task again", kind(b, NEW), Bench.TASK);
        due.same("the other is busy", kind(b, OLD), Bench.BUSY);
        due.same("its registers", b.state(), "4 8 0 660 90 0 0");
        due.same("what was written", b.savedState(STATE), "51 1 700 " + Bench.code(3) + " " + Bench.data(3) + " "
                + Bench.data(3) + " 3 7");
    }

    private static void call(Due due) {
        Bench b = bench();
        b.x.far(4 * OLD, 0, false);
        due.same("a call to a task", b.x.far(4 * NEW, 9, true), 0);
        due.same("registers", b.state(), NEW_REGISTERS + " 3 3");
        due.same("the link", b.word(STATE), 4 * OLD);
        due.same("the old task stays busy", kind(b, OLD), Bench.BUSY);
        due.same("the new one is busy", kind(b, NEW), Bench.BUSY);
        due.same("the old state", b.savedState(OLD_STATE), "91 0 660 4 8 0 0 5");
        due.same("nothing was pushed", b.word(658), 0);
        Bench first = bench();
        first.setWord(STATE, 77);
        due.same("a call from no task", first.x.far(4 * NEW, 9, true), 0);
        due.same("the link is 0", first.word(STATE), 0);
        due.same("no descriptor is touched for it", first.x.peek(Bench.TABLE + 4), 0);
        Bench jumping = bench();
        jumping.x.far(4 * NEW, 9, false);
        due.same("nor for a jump", jumping.x.peek(Bench.TABLE + 4), 0);
    }

    private static void end(Due due) {
        Bench b = bench();
        b.x.far(4 * OLD, 0, false);
        b.x.far(4 * NEW, 0, true);
        due.same("the end of a called task", b.x.end(), 0);
        due.same("registers", b.state(), "4 8 0 660 91 0 0");
        due.same("TR", b.x.register(7), 4 * OLD);
        due.same("TASK STATE", b.x.register(8), OLD_STATE);
        due.same("the ended one is a task again", kind(b, NEW), Bench.TASK);
        due.same("the other stays busy", kind(b, OLD), Bench.BUSY);
        due.same("NESTED is cleared in what was written", b.savedState(STATE), "51 1 700 " + Bench.code(3) + " "
                + Bench.data(3) + " " + Bench.data(3) + " 3 7");
        due.same("the link stays", b.word(STATE), 4 * OLD);
    }

    private static void levels(Due due) {
        for (int ring = 0; ring < 4; ring++) {
            for (int rpl = 0; rpl < 4; rpl++) {
                for (int level = 0; level < 4; level++) {
                    Bench b = bench();
                    b.toRing(ring);
                    b.put(NEW, Bench.descriptor(STATE, 99, Bench.TASK, level));
                    due.same("a task of level " + level + " with RPL " + rpl + " in ring " + ring,
                            b.x.far(Bench.select(NEW, rpl), 0, rpl % 2 == 0),
                            level >= ring && level >= rpl ? 0 : Bench.general(4 * NEW));
                }
            }
        }
    }

    private static void refused(Due due) {
        for (int call = 0; call < 2; call++) {
            Bench b = bench();
            b.put(NEW, Bench.absent(Bench.descriptor(STATE, 99, Bench.TASK, 3)));
            due.same("a task that is not present", b.x.far(4 * NEW, 0, call == 1), Bench.fault(11, 4 * NEW));
            b.put(NEW, Bench.descriptor(STATE, 99, Bench.BUSY, 3));
            due.same("a busy task", b.x.far(4 * NEW, 0, call == 1), Bench.general(4 * NEW));
            due.same("TR", b.x.register(7), 0);
            due.same("nothing is written", b.savedState(Bench.STATE), "0 0 0 0 0 0 0 0");
        }
    }

    private static void kindBytes(Due due) {
        Bench b = bench();
        b.x.poke(Bench.TABLE + 8 * NEW + 4, 0xA0 + Bench.TASK);
        b.x.poke(Bench.TABLE + 8 * OLD + 4, 0x50 + Bench.TASK);
        due.same("a jump", b.x.far(4 * NEW, 0, false), 0);
        due.same("the highest four bits of the kind stay", kind(b, NEW), 0xA0 + Bench.BUSY);
        due.same("another jump", b.x.far(Bench.select(OLD, 2), 0, false), 0);
        due.same("those of the old one too", kind(b, NEW), 0xA0 + Bench.TASK);
        due.same("and of the new one", kind(b, OLD), 0x50 + Bench.BUSY);
        due.same("TR has RPL 0", b.x.register(7), 4 * OLD);
    }

    private static void registersTaken(Due due) {
        Bench b = bench();
        b.taskState(STATE, 65535, 65532, 65534, Bench.code(2), Bench.data(1), Bench.select(3, 2), 65534, 65535);
        due.same("a jump", b.x.far(4 * NEW, 0, false), 0);
        due.same("registers; levels and RPLs are not looked at", b.state(), Bench.code(2) + " " + Bench.data(1) + " "
                + Bench.select(3, 2) + " 65534 65535 0 2");
        due.same("DIRECTORY", b.x.register(9), 31);
        Bench nested = bench();
        nested.taskState(STATE, 50, 2);
        nested.x.far(4 * NEW, 0, false);
        due.same("NESTED as it was read", nested.x.register(5), 2);
        Bench ip = bench();
        ip.taskState(STATE, 5000);
        due.same("IP may be beyond the limit", ip.x.far(4 * NEW, 0, false), 0);
        due.same("IP", ip.x.register(4), 5000);
    }

    /** The end of a task whose link is this. */
    private static void ending(Due due, String what, int link, long descriptor, int want) {
        Bench b = bench();
        b.x.far(4 * NEW, 0, true);
        b.put(0, Bench.descriptor(OLD_STATE, 99, Bench.BUSY, 0));
        b.put(EXTRA, descriptor);
        b.setWord(STATE, link);
        due.same(what, b.x.end(), want);
        due.same(what + ": TR", b.x.register(7), want == 0 ? link & ~3 : 4 * NEW);
    }

    private static void endRefused(Due due) {
        long busy = Bench.descriptor(OLD_STATE, 99, Bench.BUSY, 0);
        ending(due, "an end to a busy task", Bench.select(EXTRA, 3), busy, 0);
        ending(due, "one that is not present", Bench.select(EXTRA, 3), Bench.absent(busy), 0);
        ending(due, "an end to a task that is not busy", 4 * EXTRA,
                Bench.descriptor(OLD_STATE, 99, Bench.TASK, 0), Bench.general(4 * EXTRA));
        for (int selector = 0; selector < 4; selector++) {
            ending(due, "an end to " + selector, selector, busy, Bench.general(0));
        }
        for (int kind : new int[] {0, 1, 2, 3, 4, 7, 8, 9, 15}) {
            ending(due, "an end to kind " + kind, 4 * EXTRA, Bench.descriptor(OLD_STATE, 99, kind, 0),
                    Bench.general(0));
        }
        ending(due, "an end beyond COUNT", 4 * Bench.COUNT, busy, Bench.general(4 * Bench.COUNT));
    }

    private static void segmentsTaken(Due due) {
        for (int kind = 1; kind < 5; kind++) {
            Bench b = bench();
            b.put(EXTRA, Bench.descriptor(5, 55, kind, 1));
            b.taskState(STATE, 50, 1, 700, Bench.code(3), Bench.data(3), Bench.select(EXTRA, 2));
            due.same("a task with DS of kind " + kind, b.x.far(4 * NEW, 0, false), 0);
            due.same("DS", b.held(2), "5 55 " + kind + " 1");
            due.same("its selector", b.x.register(2), Bench.select(EXTRA, 2));
        }
        Bench b = bench();
        b.put(EXTRA, Bench.descriptor(5, 4095, Bench.CONFORMING, 1));
        b.taskState(STATE, 50, 1, 700, Bench.select(EXTRA, 1), Bench.data(3), 3);
        due.same("a task with conforming CS and without DS", b.x.far(4 * NEW, 0, false), 0);
        due.same("CS", b.held(0), "5 4095 2 1");
        due.same("DS", b.held(2), "0 0 0 0");
        due.same("its selector is 0", b.x.register(2), 0);
    }

    /** A jump to a task one of whose segments is this selector; the fault goes to ring 0 with what was taken. */
    private static void taking(Due due, String what, int s, int selector, long descriptor, int want) {
        Bench b = bench();
        b.put(0, Bench.descriptor(0, 4095, s == 0 ? Bench.CODE : Bench.DATA, 0));
        b.put(EXTRA, descriptor);
        b.setWord(STATE + 14 + 6 + 2 * s, selector);
        due.same(what, b.x.far(4 * NEW, 0, false), want);
        int sp = Bench.innerSp(0);
        due.same(what + ": TR", b.x.register(7), 4 * NEW);
        due.same(what + ": DIRECTORY", b.x.register(9), 7);
        due.same(what + ": the new one is busy", kind(b, NEW), Bench.BUSY);
        due.same(what + ": RING", b.x.register(6), 0);
        due.same(what + ": SP", b.x.register(3), sp - 12);
        due.same(what + ": IP", b.x.register(4), 800 + want / 65536);
        due.same(what + ": the old SS", b.word(sp - 2), s == 0 ? 8 : s == 1 ? 0 : Bench.data(3));
        due.same(what + ": the old SP", b.word(sp - 4), 700);
        due.same(what + ": FLAGS", b.word(sp - 6), 1);
        due.same(what + ": the old CS", b.word(sp - 8), s == 0 ? 0 : Bench.code(3));
        due.same(what + ": the old IP", b.word(sp - 10), 50);
        due.same(what + ": the code", b.word(sp - 12), want % 65536);
        due.same(what + ": DS", b.x.register(2), s == 2 ? 0 : 8);
        due.same(what + ": DS held", b.held(2), s == 2 ? "0 0 0 0" : "0 4095 4 0");
    }

    private static void segmentsRefused(Due due) {
        int task = Bench.fault(10, 4 * EXTRA);
        for (int s = 0; s < 3; s++) {
            for (int kind = 0; kind < 10; kind++) {
                boolean code = kind == Bench.CODE || kind == Bench.CONFORMING;
                boolean fits = s == 0 ? code : s == 1 ? kind == Bench.DATA : code || kind == 3 || kind == 4;
                if (!fits) {
                    taking(due, "segment " + s + " of kind " + kind, s, Bench.select(EXTRA, 3),
                            Bench.descriptor(0, 4095, kind, 3), task);
                }
            }
            taking(due, "segment " + s + " that is not present", s, Bench.select(EXTRA, 3),
                    Bench.absent(Bench.descriptor(0, 4095, s == 0 ? Bench.CODE : Bench.DATA, 3)), task);
            taking(due, "segment " + s + " beyond COUNT", s, Bench.select(Bench.COUNT, 3), 0L,
                    Bench.general(4 * Bench.COUNT));
            if (s < 2) {
                taking(due, "segment " + s + " that is NULL", s, 3, 0L, Bench.fault(10, 0));
            }
        }
    }

    /** A task that stands where the old one is written is switched to as it was. */
    private static void stateReadFirst(Due due) {
        Bench b = bench();
        b.put(NEW, Bench.descriptor(Bench.STATE, 99, Bench.TASK, 3));
        b.taskState(Bench.STATE, 50, 1, 700, Bench.code(3), Bench.data(3), Bench.data(3), 3, 7);
        due.same("a jump to the old state", b.x.far(4 * NEW, 0, false), 0);
        due.same("registers", b.state(), NEW_REGISTERS + " 1 3");
        due.same("what was written", b.savedState(Bench.STATE), "1 0 512 4 8 8 0 0");
        Bench same = bench();
        same.x.far(4 * NEW, 0, false);
        same.x.poke(Bench.TABLE + 8 * NEW + 4, Bench.TASK);
        due.same("a jump to the task itself", same.x.far(4 * NEW, 0, false), 0);
        due.same("it is busy", kind(same, NEW), Bench.BUSY);
        same.x.poke(Bench.TABLE + 8 * NEW + 4, Bench.TASK);
        due.same("a call to the task itself", same.x.far(4 * NEW, 0, true), 0);
        due.same("its link", same.word(STATE), 4 * NEW);
        due.same("its end", same.x.end(), 0);
        due.same("it is no more busy", kind(same, NEW), Bench.TASK);
    }

    /** A paged bench; with frame 26 as directory, in place of page 4 there is frame 30. */
    private static Bench paged() {
        Bench b = bench().paged();
        b.x.fill(26 * 64, 0x0307_1B07L);
        for (int page = 0; page < 16; page++) {
            b.setWord(27 * 64 + 2 * page, Bench.entry(page == 4 ? 30 : page, 7));
        }
        return b;
    }

    private static void directorySwitched(Due due) {
        Bench b = paged();
        b.x.pages(1, true);
        b.taskState(STATE, 50, 1, 700, Bench.code(0), Bench.data(0), 0, 0, 26);
        for (int i = 0; i < 64; i++) {
            b.x.poke(30 * 64 + i, b.x.peek(Bench.TABLE + i));
        }
        b.x.poke(30 * 64 + 8, 99);
        due.same("a jump to other pages", b.x.far(4 * NEW, 0, false), 0);
        due.same("CS is looked up through the new pages", b.held(0), "99 4095 1 0");
        due.same("the new table entry is seen", b.word(27 * 64 + 8), 256 * 30 + 7 + 32);
        due.same("the descriptor was marked in the old pages", kind(b, NEW), Bench.BUSY);
    }

    private static void faultsWhileSaving(Due due) {
        Bench b = paged();
        b.put(NEW, Bench.descriptor(1084, 99, Bench.TASK, 3));
        b.taskState(1084, 50, 1, 700, Bench.code(3), Bench.data(3), 0, 3, 1);
        b.setWord(192 + 2, 256 * 17);
        b.x.pages(1, true);
        due.same("a state in a page that is not there", b.x.far(4 * NEW, 0, false), Bench.fault(14, 0));
        due.same("the fault address", b.x.register(10), 1098);
        due.same("nothing is saved", b.word(Bench.STATE + 14), 0);
        due.same("nothing is marked", kind(b, NEW), Bench.TASK);
        due.same("registers", b.state(), "4 8 8 504 814 0 0");
        Bench late = paged();
        late.put(NEW, Bench.descriptor(1216, 99, Bench.TASK, 3));
        late.taskState(1216, 50, 1, 700, Bench.code(3), Bench.data(3), 0, 3, 1);
        late.put(OLD, Bench.descriptor(1066, 99, Bench.TASK, 3));
        late.taskState(1066, 90, 0, 660, 4, 8, 8, 0, 1);
        late.x.far(4 * OLD, 0, false);
        late.setWord(192 + 2, 256 * 17);
        late.x.pages(1, true);
        due.same("an old state half in a page that is not there", late.x.far(4 * NEW, 0, false), Bench.fault(14, 2));
        due.same("the fault address", late.x.register(10), 1088);
        due.same("what was saved stays", late.word(1066 + 14), 91);
        due.same("TR", late.x.register(7), 4 * OLD);
        due.same("nothing is marked", kind(late, NEW), Bench.TASK);
        due.same("not even the old one", kind(late, OLD), Bench.BUSY);
    }

    private static void flagsSaved(Due due) {
        for (int call = 0; call < 2; call++) {
            Bench b = bench();
            b.push(3, 4, 60);
            b.x.end();
            due.same("FLAGS", b.x.register(5), 3);
            due.same("a switch from a nested task", b.x.far(4 * NEW, 0, call == 1), 0);
            due.same("its FLAGS are saved whole", b.word(Bench.STATE + 16), 3);
        }
    }

    /** Ring 3 switches tasks, forth and back, though no page of tables and states is open or writable to it. */
    private static void bySystem(Due due) {
        for (int call = 0; call < 2; call++) {
            Bench b = paged();
            b.taskState(OLD_STATE, 90, 0, 660, Bench.code(3), Bench.data(3), 0, 3, 1);
            b.taskState(STATE, 50, 1, 700, Bench.code(3), Bench.data(3), Bench.data(3), 3, 1);
            b.x.far(4 * OLD, 0, false);
            for (int page = 0; page < 16; page++) {
                b.setWord(128 + 2 * page, 256 * page + 1);
                b.setWord(192 + 2 * page, 256 * (16 + page) + 1);
            }
            b.x.pages(1, true);
            due.same("a switch by ring 3", b.x.far(4 * NEW, 0, call == 1), 0);
            due.same("registers", b.state(), NEW_REGISTERS + (call == 1 ? " 3 3" : " 1 3"));
            due.same("a switch back", call == 1 ? b.x.end() : b.x.far(4 * OLD, 0, false), 0);
            due.same("registers", b.state(), Bench.code(3) + " " + Bench.data(3) + " 0 660 91 0 3");
            due.same("a push by ring 3", b.x.push(1), Bench.fault(14, 7));
            due.same("the fault address", b.x.register(10), 658);
        }
    }

    private static void marks(Due due) {
        Bench b = paged();
        b.taskState(STATE, 50, 1, 700, 4, 8, 8, 0, 1);
        b.x.pages(1, true);
        due.same("a jump", b.x.far(4 * NEW, 0, false), 0);
        due.same("the page of the descriptor is changed", b.word(128 + 10), 256 * 5 + 7 + 96);
        due.same("the page of the other descriptors is only seen", b.word(128 + 8), 256 * 4 + 7 + 32);
        Bench away = new Bench();
        away.put(NEW, Bench.descriptor(STATE, 99, Bench.TASK, 3));
        away.put(EXTRA + 8, Bench.descriptor(OLD_STATE, 99, Bench.TASK, 3));
        away.taskState(STATE, 50, 1, 700, 4, 8, 8, 0, 1);
        away.taskState(OLD_STATE, 90, 0, 660, 4, 8, 8, 0, 1);
        away.x.far(4 * (EXTRA + 8), 0, false);
        due.same("TR", away.x.register(7), 4 * (EXTRA + 8));
        away.x.fill(64, 0x03070207L);
        for (int page = 0; page < 16; page++) {
            away.setWord(128 + 2 * page, 256 * page + (page == 6 ? 6 : 7));
            away.setWord(192 + 2 * page, 256 * (16 + page) + 7);
        }
        away.x.pages(1, true);
        due.same("the old descriptor is not there to be read", away.x.far(4 * NEW, 0, false), Bench.fault(14, 0));
        due.same("the fault address", away.x.register(10), Bench.TABLE + 8 * (EXTRA + 8) + 4);
        due.same("the new one is not marked", kind(away, NEW), Bench.TASK);
        due.same("the old state was saved ahead", away.word(OLD_STATE + 14), 91);
    }
}
