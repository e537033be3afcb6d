/** The sentences on switching tasks (promises 12 and 15), each at its edges. */
public final class TaskEdgesTest {
    private static final int NEW = Bench.FREE;
    private static final int OLD = Bench.FREE + 1;
    private static final int EXTRA = Bench.FREE + 2;
    private static final int STATE = 1200;
    private static final int OLD_STATE = 1300;
    private static final int INNER_SP = 880;
    /** The DS of the old task: the code of ring 3, so every ring may have it. */
    private static final int OLD_DS = Bench.select(7, 1);

    private static final int JUMP = 0;
    private static final int CALL = 1;
    private static final int RETURN = 2;
    private static final String[] WAYS = {"a jump", "a call", "a return"};

    public static void main(String[] args) {
        Due due = new Due();
        busyOrNot(due);
        presentAside(due);
        stateRead(due);
        stateReadBySystem(due);
        stateIsEightWords(due);
        stateSaved(due);
        stateSavedBySystem(due);
        readAheadOfSaved(due);
        oldKind(due);
        oldKindWithoutTask(due);
        oldKindBits(due);
        oldKindBeyondCount(due);
        oldKindPages(due);
        oldKindWritten(due);
        newKind(due);
        newKindBits(due);
        link(due);
        linkPages(due);
        nestedSaved(due);
        nestedTaken(due);
        taskRegister(due);
        bitsTaken(due);
        ipAndSpTaken(due);
        directoryTaken(due);
        segmentsInOrder(due);
        nullSegments(due);
        anySegments(due);
        levelsAside(due);
        segmentsBeyondCount(due);
        segmentsInNoPage(due);
        stayChanged(due);
        stayChangedWhenDown(due);
        endOfNoTask(due);
        endBeyondCount(due);
        endBySystem(due);
        due.finish();
    }

    /** A bench whose task is OLD, and that can switch to NEW, whose ring is 3, by a jump, a call or a return. */
    private static Bench bench(int way) {
        return bench(way, 1, 0);
    }

    /** The old task's FLAGS are these, and NESTED for a return; its ring is this one. */
    private static Bench bench(int way, int flags, int ring) {
        Bench b = new Bench();
        b.put(NEW, Bench.descriptor(STATE, 0, way == RETURN ? Bench.BUSY : Bench.TASK, 3));
        b.put(OLD, Bench.descriptor(OLD_STATE, 0, Bench.TASK, 3));
        b.taskState(STATE, 50, 1, 700, Bench.code(3), Bench.data(3), Bench.data(3), 3, 7);
        b.taskState(OLD_STATE, 90, flags | (way == RETURN ? 2 : 0), 660, Bench.code(ring), Bench.data(ring), OLD_DS,
                ring, 5);
        for (int level = 0; level < 3; level++) {
            b.innerStack(STATE, level, INNER_SP - 40 * level, Bench.data(level));
            b.innerStack(OLD_STATE, level, Bench.innerSp(level), Bench.data(level));
        }
        b.setWord(OLD_STATE, 4 * NEW);
        b.x.far(4 * OLD, 0, false);
        return b;
    }

    private static Bench paged(int way) {
        return paged(way, 0);
    }

    /** The same with pages on, through directory 1 for both tasks. */
    private static Bench paged(int way, int ring) {
        Bench b = bench(way, 1, ring).paged();
        b.setWord(STATE + 28, 1);
        b.x.pages(1, true);
        return b;
    }

    private static int go(Bench b, int way) {
        return way == RETURN ? b.x.end() : b.x.far(4 * NEW, 9, way == CALL);
    }

    private static int kind(Bench b, int index) {
        return b.x.peek(Bench.TABLE + 8 * index + 4);
    }

    private static void busyOrNot(Due due) {
        due.sentence("TO SWITCH to a task (by a call, a jump, or a return): by a return it has to be BUSY, otherwise"
                + " not: GENERAL with its code if it isn't so.");
        for (int way = JUMP; way <= RETURN; way++) {
            for (int kind = Bench.TASK; kind <= Bench.BUSY; kind++) {
                Bench b = paged(way);
                b.put(NEW, Bench.descriptor(STATE, 0, kind, 3));
                String saved = b.savedState(OLD_STATE);
                boolean fits = (kind == Bench.BUSY) == (way == RETURN);
                due.same(WAYS[way] + " to kind " + kind, go(b, way), fits ? 0 : Bench.general(4 * NEW));
                due.same("TR", b.x.register(7), fits ? 4 * NEW : 4 * OLD);
                if (!fits) {
                    due.same("its state is not read", b.bitsOfPage(STATE / 64), 7);
                    due.same("nothing is saved", b.savedState(OLD_STATE), saved);
                    due.same("its kind", kind(b, NEW), kind);
                    due.same("the old kind", kind(b, OLD), Bench.BUSY);
                }
            }
        }
    }

    private static void presentAside(Due due) {
        due.sentence("(Whether it is present was looked at for calls and jumps alone.)");
        for (int way = JUMP; way <= RETURN; way++) {
            Bench b = bench(way);
            b.put(NEW, Bench.absent(Bench.descriptor(STATE, 0, way == RETURN ? Bench.BUSY : Bench.TASK, 3)));
            due.same(WAYS[way] + " to a task that isn't present", go(b, way),
                    way == RETURN ? 0 : Bench.fault(11, 4 * NEW));
            due.same("TR", b.x.register(7), way == RETURN ? 4 * NEW : 4 * OLD);
        }
    }

    private static void stateRead(Due due) {
        due.sentence("Its state, eight words, is read by the system from its base + 14 on: IP, FLAGS, SP, CS, SS, DS,"
                + " ring, DIRECTORY.");
        for (int way = JUMP; way <= RETURN; way++) {
            Bench b = bench(way);
            b.taskState(STATE, 0x0506, 0, 0x0708, Bench.code(1), Bench.data(2), Bench.select(7, 3), 1, 9);
            due.same(WAYS[way], go(b, way), 0);
            due.same("registers", b.state(), Bench.code(1) + " " + Bench.data(2) + " " + Bench.select(7, 3) + " "
                    + 0x0708 + " " + 0x0506 + " " + (way == CALL ? 2 : 0) + " 1");
            due.same("DIRECTORY", b.x.register(9), 9);
        }
    }

    private static void stateReadBySystem(Due due) {
        due.sentence("Its state, eight words, is read by the system from its base + 14 on");
        // The state of NEW goes from page 18 to page 19; that of OLD is in page 20.
        for (int way = JUMP; way <= RETURN; way++) {
            for (int ring = 0; ring < 4; ring += 3) {
                for (int missing = 18; missing < 20; missing++) {
                    Bench b = paged(way, ring);
                    b.put(NEW, Bench.descriptor(64 * 19 - 24, 0, way == RETURN ? Bench.BUSY : Bench.TASK, 3));
                    b.setPage(missing, 6);
                    due.same(WAYS[way] + " in ring " + ring + " to a state that is not all there", go(b, way),
                            Bench.fault(14, 0));
                    due.same("the fault address", b.x.register(10), missing == 18 ? 64 * 19 - 10 : 64 * 19);
                    due.same("TR", b.x.register(7), 4 * OLD);
                    due.same("nothing is saved", b.word(OLD_STATE + 14), 90);
                    due.same("DS is as before", b.x.register(2), OLD_DS);
                }
            }
        }
    }

    /** Both states end with their pages, and the pages behind are not there. */
    private static void stateIsEightWords(Due due) {
        due.sentence("Its state, eight words, is read by the system from its base + 14 on");
        for (int way = JUMP; way <= RETURN; way++) {
            Bench b = new Bench().paged();
            int state = 64 * 20 - 30;
            int oldState = 64 * 22 - 30;
            b.put(NEW, Bench.descriptor(state, 0, way == RETURN ? Bench.BUSY : Bench.TASK, 3));
            b.put(OLD, Bench.descriptor(oldState, 0, Bench.TASK, 3));
            b.taskState(state, 50, 1, 700, Bench.code(3), Bench.data(3), Bench.data(3), 3, 1);
            b.taskState(oldState, 90, way == RETURN ? 2 : 0, 660, 4, 8, 8, 0, 1);
            b.setWord(oldState, 4 * NEW);
            b.x.far(4 * OLD, 0, false);
            b.setPage(20, 6);
            b.setPage(22, 6);
            b.x.pages(1, true);
            due.same(WAYS[way] + " between states at the ends of their pages", go(b, way), 0);
            due.same("registers", b.state(), Bench.code(3) + " " + Bench.data(3) + " " + Bench.data(3) + " 700 50 "
                    + (way == CALL ? 3 : 1) + " 3");
            due.same("the old state", b.savedState(oldState), "91 0 660 4 8 8 0 1");
        }
    }

    private static void stateSaved(Due due) {
        due.sentence("Then those of the machine (THE NEXT as IP) are written to the old state in the same places,"
                + " by the system.");
        for (int way = JUMP; way <= RETURN; way++) {
            Bench b = bench(way);
            b.x.load(2, way == CALL ? 2 : Bench.data(2));
            b.x.push(1);
            due.same(WAYS[way], go(b, way), 0);
            due.same("the old state", b.savedState(OLD_STATE),
                    "93 1 658 4 8 " + (way == CALL ? 2 : Bench.data(2)) + " 0 5");
        }
        Bench outer = bench(JUMP);
        outer.x.pages(31, false);
        outer.push(Bench.data(3), 700, Bench.code(3), 40);
        outer.x.back();
        due.same("a jump of ring 3", outer.x.far(Bench.select(NEW, 3), 0, false), 0);
        due.same("the old state", outer.savedState(OLD_STATE),
                "41 1 700 " + Bench.code(3) + " " + Bench.data(3) + " " + OLD_DS + " 3 31");
    }

    private static void stateSavedBySystem(Due due) {
        due.sentence("Then those of the machine (THE NEXT as IP) are written to the old state in the same places,"
                + " by the system.");
        for (int way = JUMP; way <= RETURN; way++) {
            for (int ring = 0; ring < 4; ring += 3) {
                Bench b = paged(way, ring);
                b.setPage(20, 1);
                b.setPage(18, 1);
                due.same(WAYS[way] + " in ring " + ring + " with states in pages that are not open", go(b, way), 0);
                due.same("the old state's page is changed", b.bitsOfPage(20), 1 + 96);
                due.same("the new state's page is only changed by a link", b.bitsOfPage(18), way == CALL ? 97 : 33);
            }
        }
        // The first state stands at 1024; from 1038 on in page 16, which is taken away.
        Bench none = new Bench().paged();
        none.put(NEW, Bench.descriptor(STATE, 0, Bench.TASK, 3));
        none.taskState(STATE, 50, 1, 700, Bench.code(3), Bench.data(3), Bench.data(3), 3, 1);
        none.setPage(16, 6);
        none.x.pages(1, true);
        due.same("an old state in a page that is not there", none.x.far(4 * NEW, 0, false), Bench.fault(14, 2));
        due.same("the fault address", none.x.register(10), Bench.STATE + 14);
        due.same("the new kind", kind(none, NEW), Bench.TASK);
        due.same("TR", none.x.register(7), 0);
        Bench outer = new Bench().paged().toRing(3);
        outer.put(NEW, Bench.descriptor(STATE, 0, Bench.TASK, 3));
        outer.setPage(16, 6);
        outer.x.pages(1, true);
        due.same("one of ring 3", outer.x.far(4 * NEW, 0, false), Bench.fault(14, 2));
    }

    private static void readAheadOfSaved(Due due) {
        due.sentence("Then those of the machine (THE NEXT as IP) are written to the old state in the same places");
        for (int way = JUMP; way <= RETURN; way++) {
            Bench b = bench(way);
            b.put(NEW, Bench.descriptor(OLD_STATE, 0, way == RETURN ? Bench.BUSY : Bench.TASK, 3));
            b.taskState(OLD_STATE, 50, 1, 700, Bench.code(3), Bench.data(3), Bench.data(3), 3, 7);
            due.same(WAYS[way] + " to a task whose state is that of the old one", go(b, way), 0);
            due.same("what was there is taken", b.state(), Bench.code(3) + " " + Bench.data(3) + " " + Bench.data(3)
                    + " 700 50 " + (way == CALL ? 3 : 1) + " 3");
            due.same("then the old one is written", b.savedState(OLD_STATE), "91 1 660 4 8 " + OLD_DS + " 0 5");
        }
    }

    private static void oldKind(Due due) {
        due.sentence("Then the kind in the old descriptor [...] becomes TASK if it was a jump or return");
        for (int way = JUMP; way <= RETURN; way++) {
            Bench b = bench(way);
            due.same(WAYS[way], go(b, way), 0);
            due.same("the old kind", kind(b, OLD), way == CALL ? Bench.BUSY : Bench.TASK);
        }
    }

    private static void oldKindWithoutTask(Due due) {
        due.sentence("Then the kind in the old descriptor (its lowest 4 bits; if TR isn't NULL)");
        for (int way = JUMP; way <= RETURN; way++) {
            Bench b = new Bench();
            if (way == RETURN) {
                b.toFlags(3);
            }
            b.put(0, Bench.descriptor(0, 0, Bench.DATA, 0));
            b.put(NEW, Bench.descriptor(STATE, 0, way == RETURN ? Bench.BUSY : Bench.TASK, 3));
            b.taskState(STATE, 50, 0, 700, 4, 8, 8, 0, 0);
            b.setWord(Bench.STATE, 4 * NEW);
            due.same(WAYS[way] + " from no task", go(b, way), 0);
            due.same("descriptor 0 is as it was", kind(b, 0), Bench.DATA);
            due.same("FLAGS saved", b.word(Bench.STATE + 16), way == RETURN ? 1 : 0);
            due.same("TR", b.x.register(7), 4 * NEW);
            due.same("the new kind", kind(b, NEW), Bench.BUSY);
        }
    }

    private static void oldKindBits(Due due) {
        due.sentence("Then the kind in the old descriptor (its lowest 4 bits; if TR isn't NULL)");
        for (int bits : new int[] {0x00, 0x06, 0x5F, 0xA0, 0xF6}) {
            for (int way = JUMP; way <= RETURN; way++) {
                Bench b = bench(way);
                b.x.poke(Bench.TABLE + 8 * OLD + 4, bits);
                due.same(WAYS[way], go(b, way), 0);
                due.same("the old kind byte, " + bits, kind(b, OLD),
                        way == CALL ? bits : bits / 16 * 16 + Bench.TASK);
                due.same("the byte ahead", b.x.peek(Bench.TABLE + 8 * OLD + 3), 0);
                due.same("the byte behind", b.x.peek(Bench.TABLE + 8 * OLD + 5), 128 + 3);
            }
        }
    }

    private static void oldKindBeyondCount(Due due) {
        due.sentence("(at TABLE + 8 * index + 4, read and then written)");
        // The table has moved and shrunk since the old task was taken: it's no look-up.
        Bench b = bench(JUMP);
        for (int i = 0; i < 8 * (OLD + 1); i++) {
            b.x.poke(1536 + i, b.x.peek(Bench.TABLE + i));
        }
        b.x.tables(1536, OLD, Bench.VECTORS);
        due.same("a jump", go(b, JUMP), 0);
        due.same("the kind in the new table", b.x.peek(1536 + 8 * OLD + 4), Bench.TASK);
        due.same("the kind in the old table", kind(b, OLD), Bench.BUSY);
        due.same("the new kind in the new table", b.x.peek(1536 + 8 * NEW + 4), Bench.BUSY);
    }

    private static void oldKindPages(Due due) {
        due.sentence("(at TABLE + 8 * index + 4, read and then written)");
        for (int way = JUMP; way <= RETURN; way++) {
            for (int ring = 0; ring < 4; ring += 3) {
                Bench b = paged(way, ring);
                b.setPage(5, 1);
                due.same(WAYS[way] + " in ring " + ring + " with descriptors in a page that is not open",
                        go(b, way), 0);
                due.same("it is changed", b.bitsOfPage(5), 1 + 96);
            }
        }
        for (int way = JUMP; way <= RETURN; way++) {
            Bench b = farOld(way);
            b.setPage(6, 6);
            b.x.pages(1, true);
            due.same(WAYS[way] + " with the old descriptor in a page that is not there", go(b, way),
                    way == CALL ? 0 : Bench.fault(14, 0));
            due.same("the fault address", b.x.register(10), way == CALL ? 0 : Bench.TABLE + 8 * 17 + 4);
            due.same("the new kind", kind(b, NEW), way == JUMP ? Bench.TASK : Bench.BUSY);
            due.same("the state was saved ahead", b.word(OLD_STATE + 14), 91);
            due.same("TR", b.x.register(7), way == CALL ? 4 * NEW : 4 * 17);
        }
    }

    private static void oldKindWritten(Due due) {
        due.sentence("(at TABLE + 8 * index + 4, read and then written)");
        for (int kind = Bench.TASK; kind <= Bench.BUSY; kind++) {
            for (int way = JUMP; way <= RETURN; way++) {
                Bench b = farOld(way);
                b.x.poke(Bench.TABLE + 8 * 17 + 4, kind);
                b.x.pages(1, true);
                due.same(WAYS[way] + " from a task whose kind is " + kind, go(b, way), 0);
                due.same("its page is changed", b.bitsOfPage(6), way == CALL ? 7 : 7 + 96);
            }
        }
    }

    /** A paged bench whose old task has the index 17, whose descriptor is in page 6, that of the new one in page 5. */
    private static Bench farOld(int way) {
        Bench b = new Bench().paged();
        b.put(NEW, Bench.descriptor(STATE, 0, way == RETURN ? Bench.BUSY : Bench.TASK, 3));
        b.put(17, Bench.descriptor(OLD_STATE, 0, Bench.TASK, 3));
        b.taskState(STATE, 50, 1, 700, Bench.code(3), Bench.data(3), 0, 3, 1);
        b.taskState(OLD_STATE, 90, way == RETURN ? 2 : 0, 512, 4, 8, 8, 0, 1);
        b.setWord(OLD_STATE, 4 * NEW);
        b.x.far(4 * 17, 0, false);
        return b;
    }

    private static void newKind(Due due) {
        due.sentence("in the new one BUSY, if it was a call or jump");
        for (int way = JUMP; way <= RETURN; way++) {
            Bench b = paged(way);
            due.same(WAYS[way], go(b, way), 0);
            due.same("the new kind", kind(b, NEW), Bench.BUSY);
        }
        Bench self = bench(JUMP);
        self.x.poke(Bench.TABLE + 8 * OLD + 4, Bench.TASK);
        due.same("a jump to the task itself", self.x.far(4 * OLD, 0, false), 0);
        due.same("it is TASK, then BUSY", kind(self, OLD), Bench.BUSY);
        // With a return, neither kind needs to be written in the new descriptor.
        Bench back = farOld(RETURN);
        back.x.pages(1, true);
        due.same("a return", back.x.end(), 0);
        due.same("the new descriptor's page is only read", back.bitsOfPage(5), 7 + 32);
        due.same("the old descriptor's page is changed", back.bitsOfPage(6), 7 + 96);
        Bench call = farOld(CALL);
        call.x.pages(1, true);
        due.same("a call", call.x.far(4 * NEW, 0, true), 0);
        due.same("the new descriptor's page is changed", call.bitsOfPage(5), 7 + 96);
        due.same("the old descriptor's page is not seen", call.bitsOfPage(6), 7);
    }

    private static void newKindBits(Due due) {
        due.sentence("in the new one BUSY, if it was a call or jump");
        for (int way = JUMP; way <= CALL; way++) {
            Bench b = bench(way);
            b.x.poke(Bench.TABLE + 8 * NEW + 4, 0xF0 + Bench.TASK);
            due.same(WAYS[way], go(b, way), 0);
            due.same("the new kind byte", kind(b, NEW), 0xF0 + Bench.BUSY);
            due.same("the byte ahead", b.x.peek(Bench.TABLE + 8 * NEW + 3), 0);
            due.same("the byte behind", b.x.peek(Bench.TABLE + 8 * NEW + 5), 128 + 3);
        }
    }

    private static void link(Due due) {
        due.sentence("a call writes TR as a word at the new base (all this by the system), and NESTED will be set.");
        for (int way = JUMP; way <= RETURN; way++) {
            Bench b = bench(way);
            b.setWord(STATE, 0xABCD);
            due.same(WAYS[way], go(b, way), 0);
            due.same("the word at the new base", b.word(STATE), way == CALL ? 4 * OLD : 0xABCD);
            due.same("the word at the old base", b.word(OLD_STATE), 4 * NEW);
        }
        Bench first = new Bench();
        first.put(NEW, Bench.descriptor(STATE, 0, Bench.TASK, 3));
        first.taskState(STATE, 50, 1, 700, 4, 8, 8, 0, 0);
        first.setWord(STATE, 0xABCD);
        due.same("a call from no task", first.x.far(Bench.select(NEW, 3), 0, true), 0);
        due.same("the word at the new base", first.word(STATE), 0);
    }

    private static void linkPages(Due due) {
        due.sentence("a call writes TR as a word at the new base (all this by the system), and NESTED will be set.");
        for (int way = JUMP; way <= CALL; way++) {
            for (int ring = 0; ring < 4; ring += 3) {
                Bench b = paged(way, ring);
                b.put(NEW, Bench.descriptor(64 * 19 - 2, 0, Bench.TASK, 3));
                b.taskState(64 * 19 - 2, 50, 1, 700, Bench.code(3), Bench.data(3), 0, 3, 1);
                b.setPage(18, 6);
                due.same(WAYS[way] + " in ring " + ring + " to a base in a page that is not there", go(b, way),
                        way == CALL ? Bench.fault(14, 2) : 0);
                due.same("the fault address", b.x.register(10), way == CALL ? 64 * 19 - 2 : 0);
                due.same("the new one was marked ahead", kind(b, NEW), Bench.BUSY);
                due.same("TR", b.x.register(7), way == CALL ? 4 * OLD : 4 * NEW);
                due.same("FLAGS", b.x.register(5), 1);
                due.same("RING", b.x.register(6), way == CALL ? 0 : 3);
            }
        }
    }

    private static void nestedSaved(Due due) {
        due.sentence("(with a return, NESTED is cleared in the FLAGS that were written)");
        for (int way = JUMP; way <= RETURN; way++) {
            for (int flags = 0; flags < 4; flags++) {
                Bench b = bench(way, flags, 0);
                due.same(WAYS[way], go(b, way), 0);
                due.same("FLAGS saved of " + flags, b.word(OLD_STATE + 16), way == RETURN ? flags & 1 : flags);
            }
        }
    }

    private static void nestedTaken(Due due) {
        due.sentence("IP, FLAGS (bits 0 and 1, and NESTED after a call)");
        for (int way = JUMP; way <= RETURN; way++) {
            for (int flags : new int[] {0, 1, 2, 3, 4, 256, 65532, 65535}) {
                Bench b = bench(way);
                b.setWord(STATE + 16, flags);
                due.same(WAYS[way], go(b, way), 0);
                due.same("FLAGS taken of " + flags, b.x.register(5), flags % 4 | (way == CALL ? 2 : 0));
            }
        }
    }

    private static void taskRegister(Due due) {
        due.sentence("Now TR (with RPL 0) and TASK STATE (the base) are the new ones");
        for (int way = JUMP; way <= RETURN; way++) {
            for (int rpl = 0; rpl < 4; rpl++) {
                Bench b = bench(way);
                b.setWord(OLD_STATE, Bench.select(NEW, rpl));
                due.same(WAYS[way] + " with RPL " + rpl,
                        way == RETURN ? b.x.end() : b.x.far(Bench.select(NEW, rpl), 0, way == CALL), 0);
                due.same("TR", b.x.register(7), 4 * NEW);
                due.same("TASK STATE", b.x.register(8), STATE);
            }
        }
    }

    private static void bitsTaken(Due due) {
        due.sentence("ring (its lowest 2 bits) and DIRECTORY (its lowest 5) are those read.");
        int[][] cases = {{0, 0}, {1, 1}, {2, 30}, {3, 31}, {4, 32}, {7, 63}, {65535, 65535}, {65532, 65504}};
        for (int[] c : cases) {
            for (int way = JUMP; way <= RETURN; way++) {
                Bench b = bench(way);
                b.setWord(STATE + 26, c[0]);
                b.setWord(STATE + 28, c[1]);
                due.same(WAYS[way], go(b, way), 0);
                due.same("RING of " + c[0], b.x.register(6), c[0] % 4);
                due.same("DIRECTORY of " + c[1], b.x.register(9), c[1] % 32);
            }
        }
    }

    private static void ipAndSpTaken(Due due) {
        due.sentence("IP, FLAGS (bits 0 and 1, and NESTED after a call), SP");
        for (int v : new int[] {0, 4095, 4096, 65535}) {
            for (int way = JUMP; way <= RETURN; way++) {
                Bench b = bench(way);
                b.setWord(STATE + 14, v);
                b.setWord(STATE + 18, 65535 - v);
                due.same(WAYS[way], go(b, way), 0);
                due.same("IP, whatever the limit", b.x.register(4), v);
                due.same("SP, whatever the limit", b.x.register(3), 65535 - v);
            }
        }
    }

    /** Directory 26 has frame 30 in place of page 4, where CS has a base of its own. */
    private static void directoryTaken(Due due) {
        due.sentence("Then CS, SS and DS, in order: each is NULL (its selector 0), stays so if the selector read is"
                + " NULL, and otherwise is looked up, and is what was looked up");
        for (int way = JUMP; way <= RETURN; way++) {
            Bench b = bench(way).paged();
            b.setWord(64 * 26, Bench.entry(27, 7));
            b.setWord(64 * 26 + 2, Bench.entry(3, 7));
            for (int page = 4; page < 16; page++) {
                b.setWord(64 * 27 + 2 * page, Bench.entry(page == 4 ? 30 : page, 7));
            }
            b.x.fill(64 * 30 + 8, Bench.descriptor(99, 4095, Bench.CODE, 0));
            b.x.fill(64 * 30 + 16, Bench.descriptor(98, 4095, Bench.DATA, 0));
            b.taskState(STATE, 50, 1, 700, 4, 8, 8, 0, 26);
            b.x.pages(1, true);
            due.same(WAYS[way] + " to other pages", go(b, way), 0);
            due.same("CS", b.held(0), "99 4095 1 0");
            due.same("SS", b.held(1), "98 4095 4 0");
            due.same("DS", b.held(2), "98 4095 4 0");
            due.same("the kinds were marked through the old pages", kind(b, NEW), Bench.BUSY);
        }
    }

    private static void segmentsInOrder(Due due) {
        due.sentence("Then CS, SS and DS, in order");
        for (int wrong = 1; wrong < 8; wrong++) {
            Bench b = bench(JUMP);
            for (int s = 0; s < 3; s++) {
                if ((wrong >> s) % 2 == 1) {
                    b.setWord(STATE + 20 + 2 * s, Bench.select(EXTRA + s, 3));
                }
            }
            int first = wrong % 2 == 1 ? 0 : wrong % 4 == 2 ? 1 : 2;
            due.same("segments " + wrong + " are wrong", go(b, JUMP), Bench.fault(10, 4 * (EXTRA + first)));
        }
    }

    private static void nullSegments(Due due) {
        due.sentence("TASK FAULT with its code (0 if NULL), it being NULL, when CS is NULL or isn't code, SS is NULL or"
                + " isn't data, DS is neither NULL nor data, read-only data or code, or one isn't present");
        for (int way = JUMP; way <= RETURN; way++) {
            for (int selector = 0; selector < 4; selector++) {
                for (int s = 0; s < 3; s++) {
                    Bench b = bench(way);
                    b.put(0, Bench.descriptor(0, 4095, s == 0 ? Bench.CODE : Bench.DATA, 0));
                    b.setWord(STATE + 20 + 2 * s, selector);
                    due.same(WAYS[way] + " to a task whose segment " + s + " is " + selector, go(b, way),
                            s == 2 ? 0 : Bench.fault(10, 0));
                    due.same("its selector is 0", s == 2 ? b.x.register(2) : b.word(INNER_SP - (s == 0 ? 8 : 2)), 0);
                    due.same("DS", b.held(2), s == 2 ? "0 0 0 0" : "0 4095 1 3");
                }
            }
        }
    }

    private static boolean fits(int s, int kind) {
        boolean code = kind == Bench.CODE || kind == Bench.CONFORMING;
        return s == 0 ? code : s == 1 ? kind == Bench.DATA : code || kind == Bench.READ_ONLY || kind == Bench.DATA;
    }

    private static void anySegments(Due due) {
        due.sentence("TASK FAULT with its code (0 if NULL), it being NULL, when CS is NULL or isn't code, SS is NULL or"
                + " isn't data, DS is neither NULL nor data, read-only data or code, or one isn't present");
        for (int n = 0; n < 3 * 3 * 16 * 2; n++) {
            int way = n % 3;
            int s = n / 3 % 3;
            int kind = n / 9 % 16;
            boolean present = n < 144;
            Bench b = bench(way);
            long descriptor = Bench.descriptor(44, 4000, kind, 3);
            b.put(EXTRA, present ? descriptor : Bench.absent(descriptor));
            b.setWord(STATE + 20 + 2 * s, Bench.select(EXTRA, 3));
            boolean taken = fits(s, kind) && present;
            String what = WAYS[way] + " to a task whose segment " + s + " is of kind " + kind
                    + (present ? "" : ", not present");
            due.same(what, go(b, way), taken ? 0 : Bench.fault(10, 4 * EXTRA));
            if (taken) {
                due.same(what + ": it", b.held(s), "44 4000 " + kind + " 3");
                due.same(what + ": its selector", b.x.register(s), Bench.select(EXTRA, 3));
            } else {
                due.same(what + ": it is NULL", s == 2 ? b.x.register(2) : b.word(INNER_SP - (s == 0 ? 8 : 2)), 0);
            }
        }
    }

    private static void levelsAside(Due due) {
        due.sentence("and otherwise is looked up, and is what was looked up");
        for (int n = 0; n < 64; n++) {
            int ring = n % 4;
            int level = n / 4 % 4;
            int rpl = n / 16;
            for (int s = 0; s < 3; s++) {
                Bench b = bench(JUMP);
                b.put(EXTRA, Bench.descriptor(44, 4000, s == 0 ? Bench.CODE : Bench.DATA, level));
                b.setWord(STATE + 20 + 2 * s, Bench.select(EXTRA, rpl));
                b.setWord(STATE + 26, ring);
                due.same("a task of ring " + ring + ", segment " + s + " of level " + level + ", RPL " + rpl,
                        go(b, JUMP), 0);
                due.same("it", b.x.register(s) + " " + b.x.segment(s, 3), Bench.select(EXTRA, rpl) + " " + level);
                due.same("RING", b.x.register(6), ring);
            }
        }
    }

    private static void segmentsBeyondCount(Due due) {
        due.sentence("TO LOOK UP a selector: GENERAL (13) with its code if its index is COUNT or more");
        for (int way = JUMP; way <= RETURN; way++) {
            for (int s = 0; s < 3; s++) {
                Bench b = bench(way);
                b.setWord(STATE + 20 + 2 * s, Bench.select(Bench.COUNT, 3));
                due.same(WAYS[way] + " to a task whose segment " + s + " is beyond COUNT", go(b, way),
                        Bench.general(4 * Bench.COUNT));
                due.same("it is NULL", s == 2 ? b.x.register(2) : b.word(INNER_SP - (s == 0 ? 8 : 2)), 0);
                due.same("TR", b.x.register(7), 4 * NEW);
            }
        }
    }

    private static void segmentsInNoPage(Due due) {
        due.sentence("(registers changed by the switch stay changed when this raises)");
        for (int s = 0; s < 3; s++) {
            Bench b = paged(JUMP);
            // Index 17 is in page 6.
            b.setWord(STATE + 20 + 2 * s, Bench.select(17, 3));
            b.setPage(6, 6);
            due.same("a jump to a task whose segment " + s + " is in no page", go(b, JUMP), Bench.fault(14, 0));
            due.same("the fault address", b.x.register(10), Bench.TABLE + 8 * 17);
            due.same("TR", b.x.register(7), 4 * NEW);
            due.same("it is NULL", s == 2 ? b.x.register(2) : b.word(INNER_SP - (s == 0 ? 8 : 2)), 0);
        }
    }

    private static void stayChanged(Due due) {
        due.sentence("(registers changed by the switch stay changed when this raises)");
        for (int way = JUMP; way <= RETURN; way++) {
            for (int s = 0; s < 3; s++) {
                Bench b = bench(way);
                b.setWord(STATE + 20 + 2 * s, Bench.select(EXTRA, 3));
                due.same(WAYS[way] + " to a task whose segment " + s + " is wrong", go(b, way),
                        Bench.fault(10, 4 * EXTRA));
                due.same("TR", b.x.register(7), 4 * NEW);
                due.same("TASK STATE", b.x.register(8), STATE);
                due.same("DIRECTORY", b.x.register(9), 7);
                due.same("the fault goes to the inner stack of the new state", b.x.register(3), INNER_SP - 12);
                int oldSs = s == 0 ? 8 : s == 1 ? 0 : Bench.data(3);
                int oldCs = s == 0 ? 0 : Bench.code(3);
                int flags = way == CALL ? 3 : 1;
                int[] pushed = {oldSs, 700, flags, oldCs, 50, 4 * EXTRA};
                for (int i = 0; i < pushed.length; i++) {
                    due.same("pushed word " + i, b.word(INNER_SP - 2 - 2 * i), pushed[i]);
                }
                due.same("DS", b.x.register(2), s == 2 ? 0 : OLD_DS);
                due.same("the old kind", kind(b, OLD), way == CALL ? Bench.BUSY : Bench.TASK);
                due.same("the new kind", kind(b, NEW), Bench.BUSY);
            }
        }
    }

    private static void stayChangedWhenDown(Due due) {
        due.sentence("(registers changed by the switch stay changed when this raises)");
        for (int s = 0; s < 3; s++) {
            Bench b = bench(JUMP);
            b.gate(8, 0L);
            b.gate(10, 0L);
            b.setWord(STATE + 20 + 2 * s, Bench.select(EXTRA, 3));
            due.same("a jump to a task whose segment " + s + " is wrong", go(b, JUMP), Bench.fault(10, 4 * EXTRA));
            due.same("down", b.x.register(12), 1);
            due.same("registers", b.state(), (s == 0 ? 0 : Bench.code(3)) + " "
                    + (s == 0 ? 8 : s == 1 ? 0 : Bench.data(3)) + " " + (s == 2 ? 0 : OLD_DS) + " 700 50 1 3");
            due.same("what it is", b.held(s), "0 0 0 0");
            due.same("TR", b.x.register(7), 4 * NEW);
            due.same("TASK STATE", b.x.register(8), STATE);
            due.same("DIRECTORY", b.x.register(9), 7);
        }
    }

    private static void endOfNoTask(Due due) {
        due.sentence("(GENERAL with 0 if NULL or not a task)");
        for (int selector = 0; selector < 4; selector++) {
            Bench b = bench(RETURN);
            b.put(0, Bench.descriptor(STATE, 0, Bench.BUSY, 0));
            b.setWord(OLD_STATE, selector);
            due.same("an end to " + selector, b.x.end(), Bench.general(0));
            due.same("TR", b.x.register(7), 4 * OLD);
        }
        for (int kind = 0; kind < 16; kind++) {
            Bench b = bench(RETURN);
            b.x.poke(Bench.TABLE + 8 * NEW + 4, 0xC0 + kind);
            due.same("an end to kind " + kind, b.x.end(),
                    kind == Bench.BUSY ? 0 : Bench.general(kind == Bench.TASK ? 4 * NEW : 0));
            due.same("TR", b.x.register(7), kind == Bench.BUSY ? 4 * NEW : 4 * OLD);
        }
    }

    private static void endBeyondCount(Due due) {
        due.sentence("a switch by a return to the task whose selector is the word at TASK STATE");
        for (int rpl = 0; rpl < 4; rpl++) {
            Bench b = bench(RETURN);
            b.setWord(OLD_STATE, Bench.select(Bench.COUNT, rpl));
            due.same("an end to an index of COUNT", b.x.end(), Bench.general(4 * Bench.COUNT));
            Bench ring = bench(RETURN);
            ring.put(NEW, Bench.descriptor(STATE, 0, Bench.BUSY, 0));
            ring.setWord(OLD_STATE, Bench.select(NEW, rpl));
            due.same("levels and RPL " + rpl + " are not looked at", ring.x.end(), 0);
        }
    }

    private static void endBySystem(Due due) {
        due.sentence("a switch by a return to the task whose selector is the word at TASK STATE");
        for (int bits = 0; bits < 2; bits++) {
            Bench b = new Bench().paged();
            b.put(NEW, Bench.descriptor(STATE, 0, Bench.BUSY, 3));
            b.taskState(STATE, 50, 1, 700, Bench.code(3), Bench.data(3), 0, 3, 1);
            b.push(Bench.data(3), 700, 2, Bench.code(3), 40);
            b.x.end();
            b.setWord(Bench.STATE, 4 * NEW);
            b.setPage(16, bits);
            b.x.pages(1, true);
            due.same("an end in ring 3 with a task state in a page that is " + (bits == 1 ? "not open" : "not there"),
                    b.x.end(), bits == 1 ? 0 : Bench.fault(14, 0));
            due.same("TR", b.x.register(7), bits == 1 ? 4 * NEW : 0);
        }
        Bench odd = bench(RETURN);
        odd.setWord(OLD_STATE, 0);
        odd.setWord(OLD_STATE + 2, 4 * NEW);
        due.same("the word at TASK STATE, and no other", odd.x.end(), Bench.general(0));
    }
}
