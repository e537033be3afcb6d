/** The sentences on entering code, far transfers, gates, targets and inner stacks (promise 12), each at its edges. */
public final class FarEdgesTest {
    private static final int FREE = Bench.FREE;
    private static final int OTHER = Bench.FREE + 1;
    private static final int THIRD = Bench.FREE + 2;
    private static final int WHAT = Bench.general(4 * FREE);
    private static final int STACK = Bench.fault(12, 0);
    private static final int STATE = 1200;

    public static void main(String[] args) {
        Due due = new Due();
        enterLimits(due);
        enterRpl(due);
        callOrJump(due);
        nulls(due);
        lookedUp(due);
        anyDescriptor(due);
        callPushes(due);
        callPushesFirst(due);
        gateOffset(due);
        gateAheadOfTarget(due);
        targetNull(due);
        targets(due);
        targetRpl(due);
        jumpEnters(due);
        sameStack(due);
        pushedAheadOfEntering(due);
        innerPlaces(due);
        innerNull(due);
        innerStacks(due);
        innerLookedUp(due);
        innerPushes(due);
        innerWordCounts(due);
        innerWordPlaces(due);
        innerWordsBehind(due);
        innerWordsByTheOldRing(due);
        innerPushedByTheNewRing(due);
        innerBySystem(due);
        innerLimits(due);
        whenDown(due);
        due.finish();
    }

    private static void enterLimits(Due due) {
        due.sentence("TO ENTER code at an offset by a selector (looked up): GENERAL with 0 if the offset is greater"
                + " than its limit; otherwise it is CS, with the ring as RPL, and IP the offset.");
        for (int limit : new int[] {0, 1, 99, 32768, 65534, 65535}) {
            for (int offset : new int[] {0, limit - 1, limit, limit + 1, 65535}) {
                for (int way = 0; way < 4 && offset >= 0 && offset < 65536; way++) {
                    Bench b = new Bench();
                    b.put(FREE, Bench.descriptor(0, limit, Bench.CODE, 0));
                    b.put(OTHER, Bench.callGate(4 * FREE, offset, 0, 0));
                    boolean inside = offset <= limit;
                    int selector = way < 2 ? 4 * FREE : 4 * OTHER;
                    due.same("a transfer to " + offset + ", limit " + limit,
                            b.x.far(selector, way < 2 ? offset : 0, way % 2 == 1), inside ? 0 : Bench.general(0));
                    due.same("IP", b.x.register(4), inside ? offset : 813);
                    due.same("CS", b.x.register(0), inside ? 4 * FREE : 4);
                }
            }
        }
    }

    private static void enterRpl(Due due) {
        due.sentence("otherwise it is CS, with the ring as RPL, and IP the offset.");
        for (int ring = 0; ring < 4; ring++) {
            for (int rpl = 0; rpl < 4; rpl++) {
                Bench b = new Bench().toRing(ring);
                b.put(FREE, Bench.descriptor(5, 99, Bench.CONFORMING, 0));
                due.same("a jump to conforming code with RPL " + rpl, b.x.far(Bench.select(FREE, rpl), 9, false), 0);
                due.same("CS in ring " + ring, b.x.register(0), Bench.select(FREE, ring));
                due.same("RING", b.x.register(6), ring);
                due.same("what it is", b.held(0), "5 99 2 0");
            }
        }
    }

    private static void callOrJump(Due due) {
        due.sentence("An instruction: a far call (or jump).");
        Bench b = new Bench();
        due.same("a jump", b.x.far(4, 100, false), 0);
        due.same("registers", b.state(), "4 8 8 512 100 0 0");
        due.same("a call", b.x.far(4, 200, true), 0);
        due.same("registers", b.state(), "4 8 8 508 200 0 0");
        due.same("a call to where it is", b.x.far(4, 200, true), 0);
        due.same("the next", b.word(504), 201);
    }

    private static void nulls(Due due) {
        due.sentence("A FAR transfer (call or jump) to a selector and an offset: NULL: GENERAL with 0.");
        for (int selector = 0; selector < 4; selector++) {
            for (int call = 0; call < 2; call++) {
                Bench b = new Bench();
                b.put(0, Bench.descriptor(0, 4095, Bench.CONFORMING, 0));
                due.same("a transfer to " + selector, b.x.far(selector, 0, call == 1), Bench.general(0));
                due.same("IP", b.x.register(4), 813);
            }
        }
    }

    private static void lookedUp(Due due) {
        due.sentence("It is looked up.");
        for (int call = 0; call < 2; call++) {
            for (int rpl = 0; rpl < 4; rpl++) {
                Bench b = new Bench();
                due.same("an index of COUNT", b.x.far(Bench.select(Bench.COUNT, rpl), 0, call == 1),
                        Bench.general(4 * Bench.COUNT));
            }
            due.same("the greatest index", new Bench().x.far(65535, 0, call == 1), Bench.general(65532));
        }
    }

    /** What a far transfer to a descriptor is answered; gates lead to code of the ring, tasks can be switched to. */
    private static int wanted(int ring, int rpl, int level, int kind, boolean present) {
        boolean code = kind == Bench.CODE && level == ring && rpl <= ring || kind == Bench.CONFORMING && level <= ring;
        boolean door = (kind == Bench.GATE || kind == Bench.TASK) && level >= ring && level >= rpl;
        return !code && !door ? WHAT : present ? 0 : Bench.fault(11, 4 * FREE);
    }

    private static void anyDescriptor(Due due) {
        due.sentence("CODE whose level is the ring, with RPL not greater than the ring, or CONFORMING with a level not"
                + " greater: if it isn't present, MISSING (11) with its code; [...] A CALL gate or a TASK whose level"
                + " is not less than the ring and RPL: MISSING if it isn't present. A task: it is SWITCHED to. [...]"
                + " Everything else: GENERAL with its code.");
        for (int n = 0; n < 4 * 4 * 4 * 16 * 4; n++) {
            int ring = n % 4;
            int rpl = n / 4 % 4;
            int level = n / 16 % 4;
            int kind = n / 64 % 16;
            boolean present = n / 1024 % 2 == 0;
            boolean call = n / 2048 == 1;
            Bench b = new Bench().toRing(ring);
            // As a task it stands at 1200, as a gate it leads to the code of the ring at 1200.
            long descriptor = Bench.descriptor(STATE, kind == Bench.GATE ? Bench.code(ring) : 4095, kind, level);
            b.put(FREE, present ? descriptor : Bench.absent(descriptor));
            b.taskState(STATE, 50, 0, 700, Bench.code(3), Bench.data(3), 0, 3, 0);
            int want = wanted(ring, rpl, level, kind, present);
            String what = (call ? "a call" : "a jump") + " to kind " + kind + ", level " + level + ", RPL " + rpl
                    + " in ring " + ring + (present ? "" : ", not present");
            due.same(what, b.x.far(Bench.select(FREE, rpl), 77, call), want);
            int entered = kind == Bench.TASK ? 50 : kind == Bench.GATE ? STATE : 77;
            due.same(what + ": IP", b.x.register(4), want == 0 ? entered : 800 + want / 65536);
            due.same(what + ": TR", b.x.register(7), want == 0 && kind == Bench.TASK ? 4 * FREE : 0);
        }
    }

    private static void callPushes(Due due) {
        due.sentence("a call pushes CS and THE NEXT; it is entered.");
        for (int ring = 0; ring < 4; ring++) {
            Bench b = new Bench().toRing(ring);
            int sp = b.x.register(3);
            due.same("a call", b.x.far(Bench.code(ring), 9, true), 0);
            due.same("CS", b.word(sp - 2), Bench.code(ring));
            due.same("the next", b.word(sp - 4), 41);
            due.same("SP", b.x.register(3), sp - 4);
            due.same("a jump", b.x.far(Bench.code(ring), 9, false), 0);
            due.same("pushes nothing", b.x.register(3), sp - 4);
        }
    }

    private static void callPushesFirst(Due due) {
        due.sentence("a call pushes CS and THE NEXT; it is entered.");
        for (int sp = 0; sp < 6; sp++) {
            Bench b = new Bench().toStack(Bench.data(3), sp);
            boolean fits = sp >= 4;
            due.same("a call at SP " + sp + " beyond the limit", b.x.far(Bench.code(3), 4096, true),
                    fits ? Bench.general(0) : STACK);
            due.same("SP is as before", b.word(Bench.innerSp(0) - 4), sp);
            Bench jump = new Bench().toStack(Bench.data(3), sp);
            due.same("a jump at SP " + sp, jump.x.far(Bench.code(3), 4095, false), 0);
        }
    }

    private static void gateOffset(Due due) {
        due.sentence("A gate: its selector is THE TARGET; the offset is the gate's.");
        for (int call = 0; call < 2; call++) {
            Bench b = new Bench();
            b.put(FREE, Bench.callGate(4, 4095, 0, 0));
            due.same("a gate with an offset that is inside", b.x.far(4 * FREE, 65535, call == 1), 0);
            due.same("IP", b.x.register(4), 4095);
            b.put(FREE, Bench.callGate(4, 4096, 0, 0));
            due.same("a gate with an offset that is outside", b.x.far(4 * FREE, 0, call == 1), Bench.general(0));
        }
    }

    private static void gateAheadOfTarget(Due due) {
        due.sentence("A CALL gate or a TASK whose level is not less than the ring and RPL:"
                + " MISSING if it isn't present.");
        for (int call = 0; call < 2; call++) {
            Bench b = new Bench();
            b.put(FREE, Bench.absent(Bench.callGate(0, 70, 0, 0)));
            due.same("a gate to NULL that isn't present", b.x.far(4 * FREE, 0, call == 1), Bench.fault(11, 4 * FREE));
            b.put(FREE, Bench.absent(Bench.descriptor(STATE, 99, Bench.TASK, 0)));
            due.same("a task that isn't present", b.x.far(4 * FREE, 0, call == 1), Bench.fault(11, 4 * FREE));
            due.same("nothing is saved", b.savedState(Bench.STATE), "0 0 0 0 0 0 0 0");
        }
    }

    private static void targetNull(Due due) {
        due.sentence("The target: NULL: GENERAL with 0; looked up");
        for (int selector = 0; selector < 4; selector++) {
            for (int call = 0; call < 2; call++) {
                Bench b = new Bench();
                b.put(0, Bench.descriptor(0, 4095, Bench.CODE, 0));
                b.put(FREE, Bench.callGate(selector, 70, 0, 0));
                due.same("a gate to " + selector, b.x.far(4 * FREE, 0, call == 1), Bench.general(0));
                b.put(FREE, Bench.callGate(Bench.select(Bench.COUNT, selector), 70, 0, 0));
                due.same("a gate to an index of COUNT", b.x.far(4 * FREE, 0, call == 1),
                        Bench.general(4 * Bench.COUNT));
            }
        }
    }

    private static void targets(Due due) {
        due.sentence("code of a level not greater than the ring (for a jump: that may be entered as above, RPL aside),"
                + " otherwise GENERAL with its code; MISSING if it isn't present.");
        for (int n = 0; n < 4 * 4 * 16 * 4; n++) {
            int ring = n % 4;
            int level = n / 4 % 4;
            int kind = n / 16 % 16;
            boolean present = n / 256 % 2 == 0;
            boolean call = n / 512 == 1;
            Bench b = new Bench().toRing(ring);
            long descriptor = Bench.descriptor(0, 99, kind, level);
            b.put(OTHER, present ? descriptor : Bench.absent(descriptor));
            b.put(FREE, Bench.callGate(4 * OTHER, 70, 3, 0));
            boolean fits = kind == Bench.CONFORMING && level <= ring
                    || kind == Bench.CODE && (call ? level <= ring : level == ring);
            int want = !fits ? Bench.general(4 * OTHER) : present ? 0 : Bench.fault(11, 4 * OTHER);
            String what = (call ? "a call" : "a jump") + " by a gate in ring " + ring + " to kind " + kind + ", level "
                    + level + (present ? "" : ", not present");
            due.same(what, b.x.far(Bench.select(FREE, 3), 0, call), want);
            if (want == 0) {
                int inner = kind == Bench.CODE ? level : ring;
                due.same(what + ": CS", b.x.register(0), Bench.select(OTHER, inner));
                due.same(what + ": RING", b.x.register(6), inner);
                due.same(what + ": SS", b.x.register(1), Bench.data(inner));
            }
        }
    }

    private static void targetRpl(Due due) {
        due.sentence("(for a jump: that may be entered as above, RPL aside)");
        for (int rpl = 0; rpl < 4; rpl++) {
            for (int call = 0; call < 2; call++) {
                Bench b = new Bench().toRing(1);
                b.put(FREE, Bench.callGate(Bench.select(3, rpl), 70, 3, 0));
                due.same("a gate whose target has RPL " + rpl, b.x.far(4 * FREE, 0, call == 1), 0);
                due.same("CS", b.x.register(0), Bench.code(1));
            }
        }
    }

    private static void jumpEnters(Due due) {
        due.sentence("A jump enters it.");
        Bench b = new Bench().toRing(2);
        b.put(FREE, Bench.callGate(Bench.code(2), 70, 3, 7));
        due.same("a jump by a gate with words", b.x.far(Bench.select(FREE, 2), 0, false), 0);
        due.same("registers", b.state(), Bench.code(2) + " " + Bench.data(2) + " 0 700 70 0 2");
    }

    private static void sameStack(Due due) {
        due.sentence("otherwise CS and THE NEXT are pushed; it is entered.");
        for (int kind = Bench.CODE; kind <= Bench.CONFORMING; kind++) {
            Bench b = new Bench().toRing(2);
            b.put(OTHER, Bench.descriptor(0, 99, kind, kind == Bench.CODE ? 2 : 0));
            b.put(FREE, Bench.callGate(4 * OTHER, 70, 3, 7));
            due.same("a call by a gate to kind " + kind, b.x.far(Bench.select(FREE, 2), 0, true), 0);
            due.same("no words go along", b.state(),
                    Bench.select(OTHER, 2) + " " + Bench.data(2) + " 0 696 70 0 2");
            due.same("CS", b.word(698), Bench.code(2));
            due.same("the next", b.word(696), 41);
        }
    }

    private static void pushedAheadOfEntering(Due due) {
        due.sentence("otherwise CS and THE NEXT are pushed; it is entered.");
        for (int sp = 0; sp < 6; sp++) {
            Bench b = new Bench().toStack(Bench.data(3), sp);
            b.put(FREE, Bench.callGate(Bench.code(3), 4096, 3, 0));
            due.same("a gate's call at SP " + sp + " beyond the limit", b.x.far(Bench.select(FREE, 3), 0, true),
                    sp < 4 ? STACK : Bench.general(0));
        }
        Bench b = new Bench().toRing(3);
        b.put(FREE, Bench.callGate(Bench.code(3), 4096, 3, 0));
        due.same("a gate's call beyond the limit", b.x.far(Bench.select(FREE, 3), 0, true), Bench.general(0));
        due.same("what it pushed stays", b.word(698) + " " + b.word(696), Bench.code(3) + " 41");
        due.same("SP is as before", b.word(Bench.innerSp(0) - 4), 700);
        Bench inner = new Bench().toRing(3);
        inner.put(FREE, Bench.callGate(Bench.code(1), 4096, 3, 0));
        due.same("a call inwards beyond the limit", inner.x.far(Bench.select(FREE, 3), 0, true), Bench.general(0));
        due.same("what it pushed stays", inner.word(Bench.innerSp(1) - 8), 41);
    }

    private static void innerPlaces(Due due) {
        due.sentence("INNER: the new SP and SS selector are the words at TASK STATE + 4 * level + 2 and + 4,"
                + " read by the system.");
        for (int level = 0; level < 3; level++) {
            Bench b = new Bench().toRing(3);
            for (int i = 1; i < 8; i++) {
                b.setWord(Bench.STATE + 2 * i, 0);
            }
            b.put(OTHER, Bench.descriptor(0, 2000, Bench.DATA, level));
            b.innerStack(Bench.STATE, level, 1900 + level, Bench.select(OTHER, level));
            b.put(FREE, Bench.callGate(Bench.code(level), 70, 3, 0));
            due.same("a call to level " + level, b.x.far(Bench.select(FREE, 3), 0, true), 0);
            due.same("registers", b.state(), Bench.code(level) + " " + Bench.select(OTHER, level) + " 0 "
                    + (1892 + level) + " 70 0 " + level);
            due.same("SS", b.held(1), "0 2000 4 " + level);
        }
    }

    /** A call from ring 3 to this level, where the task state names this stack. */
    private static Bench innerCall(int level, int selector, long descriptor) {
        Bench b = new Bench().toRing(3);
        b.put(0, descriptor);
        b.put(OTHER, descriptor);
        b.put(FREE, Bench.callGate(Bench.code(level), 70, 3, 0));
        b.innerStack(Bench.STATE, level, 900, selector);
        // Faults go to ring 2, for the stacks of the rings 0 and 1 may be those that are wrong.
        for (int v = 8; v < 15; v++) {
            b.gate(v, Bench.descriptor(800 + v, level == 2 ? 4 : Bench.code(2), Bench.TRAP, 3));
        }
        return b;
    }

    private static void innerNull(Due due) {
        due.sentence("That SS: TASK FAULT (10) with its code if it is NULL");
        for (int level = 0; level < 3; level++) {
            for (int rpl = 0; rpl < 4; rpl++) {
                Bench b = innerCall(level, rpl, Bench.descriptor(0, 4095, Bench.DATA, level));
                due.same("an inner SS that is " + rpl, b.x.far(Bench.select(FREE, 3), 0, true), Bench.fault(10, 0));
                due.same("IP", b.x.register(4), 810);
            }
        }
    }

    private static void innerStacks(Due due) {
        due.sentence("or, looked up, is not data of the target's level with that RPL;"
                + " STACK with its code if it isn't present.");
        for (int n = 0; n < 3 * 4 * 4 * 16 * 2; n++) {
            int target = n % 3;
            int rpl = n / 3 % 4;
            int level = n / 12 % 4;
            int kind = n / 48 % 16;
            boolean present = n < 768;
            long descriptor = Bench.descriptor(0, 4095, kind, level);
            Bench b = innerCall(target, Bench.select(OTHER, rpl), present ? descriptor : Bench.absent(descriptor));
            boolean fits = kind == Bench.DATA && level == target && rpl == target;
            String what = "an inner SS for level " + target + " of kind " + kind + ", level " + level + ", RPL " + rpl
                    + (present ? "" : ", not present");
            due.same(what, b.x.far(Bench.select(FREE, 3), 0, true),
                    !fits ? Bench.fault(10, 4 * OTHER) : present ? 0 : Bench.fault(12, 4 * OTHER));
        }
    }

    private static void innerLookedUp(Due due) {
        due.sentence("or, looked up, is not data of the target's level with that RPL");
        for (int rpl = 0; rpl < 4; rpl++) {
            Bench b = innerCall(1, Bench.select(Bench.COUNT, rpl), 0L);
            due.same("an inner SS beyond COUNT", b.x.far(Bench.select(FREE, 3), 0, true),
                    Bench.general(4 * Bench.COUNT));
        }
        Bench last = innerCall(1, Bench.select(Bench.COUNT - 1, 1), 0L);
        last.put(Bench.COUNT - 1, Bench.descriptor(0, 4095, Bench.DATA, 1));
        due.same("an inner SS at the last index", last.x.far(Bench.select(FREE, 3), 0, true), 0);
    }

    private static void innerPushes(Due due) {
        due.sentence("From here on the ring is the level, and SS and SP are these; pushed are the old SS and SP, then"
                + " the words (the last one first), then CS and THE NEXT.");
        Bench b = new Bench().toRing(3);
        b.put(OTHER, Bench.descriptor(1500, 400, Bench.DATA, 1));
        b.innerStack(Bench.STATE, 1, 300, Bench.select(OTHER, 1));
        b.put(FREE, Bench.callGate(Bench.code(1), 70, 3, 3));
        b.push(11, 22, 33);
        due.same("a call inwards", b.x.far(Bench.select(FREE, 3), 0, true), 0);
        due.same("registers", b.state(), Bench.code(1) + " " + Bench.select(OTHER, 1) + " 0 286 70 0 1");
        int[] pushed = {Bench.data(3), 694, 11, 22, 33, Bench.code(3), 44};
        for (int i = 0; i < pushed.length; i++) {
            due.same("pushed word " + i, b.word(1798 - 2 * i), pushed[i]);
        }
        due.same("the old stack is as it was", b.word(694), 33);
        due.same("nothing was pushed there", b.word(692), 0);
    }

    private static void innerWordCounts(Due due) {
        due.sentence("A call: when it is CODE of a lower level: INNER, with as many words as the gate has"
                + " (read from the old stack: the one that SP names, and so on)");
        for (int words = 0; words < 8; words++) {
            Bench b = new Bench().toRing(3);
            b.put(FREE, Bench.callGate(Bench.code(0), 70, 3, words));
            b.push(107, 106, 105, 104, 103, 102, 101, 100);
            due.same("a call with " + words + " words", b.x.far(Bench.select(FREE, 3), 0, true), 0);
            int sp = b.x.register(3);
            due.same("SP", sp, Bench.innerSp(0) - 8 - 2 * words);
            for (int i = 0; i < words; i++) {
                due.same("word " + i, b.word(sp + 4 + 2 * i), 100 + i);
            }
            due.same("behind them the old SP", b.word(sp + 4 + 2 * words), 684);
            due.same("and the old SS", b.word(sp + 6 + 2 * words), Bench.data(3));
        }
    }

    private static void innerWordPlaces(Due due) {
        due.sentence("(read from the old stack: the one that SP names, and so on)");
        // SP wraps round: the third word of the stack is at offset 0 again.
        Bench b = new Bench();
        b.put(OTHER, Bench.descriptor(640, 65535, Bench.DATA, 3));
        b.put(FREE, Bench.callGate(Bench.code(0), 70, 3, 3));
        b.toStack(Bench.select(OTHER, 3), 65532);
        b.setWord(636, 1);
        b.setWord(638, 2);
        b.setWord(640, 3);
        due.same("words round the end", b.x.far(Bench.select(FREE, 3), 0, true), 0);
        int sp = b.x.register(3);
        due.same("the words", b.word(sp + 4) + " " + b.word(sp + 6) + " " + b.word(sp + 8), "1 2 3");
        // Where the limit is less than the greatest, going round is told from going on by what is raised.
        Bench odd = new Bench();
        odd.put(OTHER, Bench.descriptor(640, 65535, Bench.DATA, 3));
        odd.put(FREE, Bench.callGate(Bench.code(0), 70, 3, 2));
        odd.toStack(Bench.select(OTHER, 3), 65533);
        due.same("a word at 65535", odd.x.far(Bench.select(FREE, 3), 0, true), STACK);
        for (int words = 0; words < 4; words++) {
            Bench few = new Bench();
            few.put(OTHER, Bench.descriptor(0, 703, Bench.DATA, 3));
            few.put(FREE, Bench.callGate(Bench.code(0), 70, 3, words));
            few.toStack(Bench.select(OTHER, 3), 700);
            due.same(words + " words where two are", few.x.far(Bench.select(FREE, 3), 0, true), words < 3 ? 0 : STACK);
            due.same("SP", few.x.register(3), words < 3 ? Bench.innerSp(0) - 8 - 2 * words : Bench.innerSp(0) - 12);
        }
    }

    private static void innerWordsBehind(Due due) {
        due.sentence("(The words are read behind that, ahead of the first push, from the old stack by the old ring.)");
        Bench b = new Bench();
        b.put(OTHER, Bench.descriptor(0, 701, Bench.DATA, 3));
        b.put(THIRD, Bench.absent(Bench.descriptor(0, 4095, Bench.DATA, 1)));
        b.put(FREE, Bench.callGate(Bench.code(1), 70, 3, 2));
        b.innerStack(Bench.STATE, 1, 900, Bench.select(THIRD, 1));
        b.toStack(Bench.select(OTHER, 3), 700);
        due.same("the new stack is looked at first", b.x.far(Bench.select(FREE, 3), 0, true),
                Bench.fault(12, 4 * THIRD));
        Bench words = new Bench();
        words.put(OTHER, Bench.descriptor(0, 701, Bench.DATA, 3));
        words.put(FREE, Bench.callGate(Bench.code(1), 70, 3, 2));
        words.innerStack(Bench.STATE, 1, 900, Bench.data(1));
        words.toStack(Bench.select(OTHER, 3), 700);
        due.same("then the words are read", words.x.far(Bench.select(FREE, 3), 0, true), STACK);
        due.same("and nothing was pushed", words.word(898), 0);
        // Both stacks are the same memory: what is pushed does not change the words.
        Bench same = new Bench().toRing(3);
        same.put(FREE, Bench.callGate(Bench.code(1), 70, 3, 2));
        same.push(22, 11);
        same.innerStack(Bench.STATE, 1, 700, Bench.data(1));
        due.same("a call to a stack at the same place", same.x.far(Bench.select(FREE, 3), 0, true), 0);
        due.same("the words", same.word(692) + " " + same.word(694), "11 22");
        due.same("the old SP and SS", same.word(696) + " " + same.word(698), "696 " + Bench.data(3));
    }

    private static void innerWordsByTheOldRing(Due due) {
        due.sentence("(The words are read behind that, ahead of the first push, from the old stack by the old ring.)");
        for (int ring = 2; ring < 4; ring++) {
            Bench b = new Bench().paged().toRing(ring);
            b.put(FREE, Bench.callGate(Bench.code(1), 70, 3, 1));
            b.setPage(10, 1);
            b.x.pages(1, true);
            due.same("a word of ring " + ring + " in a page that is not open",
                    b.x.far(Bench.select(FREE, ring), 0, true), ring == 3 ? Bench.fault(14, 5) : 0);
            due.same("the fault address", b.x.register(10), ring == 3 ? 700 : 0);
        }
    }

    private static void innerPushedByTheNewRing(Due due) {
        due.sentence("From here on the ring is the level, and SS and SP are these; pushed are the old SS and SP, then"
                + " the words (the last one first), then CS and THE NEXT.");
        for (int level = 0; level < 3; level++) {
            Bench b = new Bench().paged().toRing(3);
            b.put(FREE, Bench.callGate(Bench.code(level), 70, 3, 1));
            b.setPage(13, 1);
            b.setPage(14, 1);
            b.setPage(15, 1);
            b.x.pages(1, true);
            due.same("pushes of ring " + level + " in a page that is not open",
                    b.x.far(Bench.select(FREE, 3), 0, true), 0);
            due.same("SP", b.x.register(3), Bench.innerSp(level) - 10);
            Bench none = new Bench().paged().toRing(3);
            none.put(FREE, Bench.callGate(Bench.code(level), 70, 3, 1));
            none.innerStack(Bench.STATE, level, 64 * 21 + 2, Bench.data(level));
            none.setPage(20, 6);
            // Page 21 has room for the old SS alone.
            none.x.pages(1, true);
            due.same("pushes of ring " + level + " in a page that is not there",
                    none.x.far(Bench.select(FREE, 3), 0, true), Bench.fault(14, 2));
            due.same("the fault address is the old SP's", none.x.register(10), 64 * 21 - 2);
            due.same("the old SS stays", none.word(64 * 21), Bench.data(3));
        }
    }

    private static void innerBySystem(Due due) {
        due.sentence("INNER: the new SP and SS selector are the words at TASK STATE + 4 * level + 2 and + 4,"
                + " read by the system.");
        Bench b = new Bench().paged().toRing(3);
        b.put(FREE, Bench.callGate(Bench.code(1), 70, 3, 0));
        b.setPage(16, 1);
        b.x.pages(1, true);
        due.same("a task state in a page that is not open", b.x.far(Bench.select(FREE, 3), 0, true), 0);
        due.same("it is only read", b.bitsOfPage(16), 33);
        Bench none = new Bench().paged().toRing(3);
        none.put(FREE, Bench.callGate(Bench.code(1), 70, 3, 0));
        none.setPage(16, 6);
        none.x.pages(1, true);
        due.same("a task state in a page that is not there", none.x.far(Bench.select(FREE, 3), 0, true),
                Bench.fault(14, 0));
        due.same("the fault can't be delivered inwards", none.x.register(12), 1);
        due.same("the fault address is the SP of ring 0", none.x.register(10), Bench.STATE + 2);
    }

    private static void innerLimits(Due due) {
        due.sentence("From here on the ring is the level, and SS and SP are these; pushed are the old SS and SP, then"
                + " the words (the last one first), then CS and THE NEXT.");
        for (int sp = 0; sp < 12; sp++) {
            Bench b = new Bench().toRing(3);
            b.put(FREE, Bench.callGate(Bench.code(1), 70, 3, 1));
            b.innerStack(Bench.STATE, 1, sp, Bench.data(1));
            due.same("room for " + sp + " bytes", b.x.far(Bench.select(FREE, 3), 0, true), sp < 10 ? STACK : 0);
            due.same("SP", b.x.register(3), sp < 10 ? Bench.innerSp(0) - 12 : sp - 10);
            due.same("the old SS", b.word(Bench.innerSp(0) - 2), sp < 10 ? Bench.data(3) : 0);
        }
        Bench wraps = new Bench().toRing(3);
        wraps.put(FREE, Bench.callGate(Bench.code(1), 70, 3, 0));
        wraps.put(OTHER, Bench.descriptor(1500, 65535, Bench.DATA, 1));
        wraps.innerStack(Bench.STATE, 1, 4, Bench.select(OTHER, 1));
        due.same("an inner stack that goes round", wraps.x.far(Bench.select(FREE, 3), 0, true), 0);
        due.same("SP", wraps.x.register(3), 65532);
        due.same("the next", wraps.word(1496), 41);
        for (int limit = 897; limit < 900; limit++) {
            Bench b = new Bench().toRing(3);
            b.put(FREE, Bench.callGate(Bench.code(1), 70, 3, 0));
            b.put(OTHER, Bench.descriptor(0, limit, Bench.DATA, 1));
            b.innerStack(Bench.STATE, 1, 900, Bench.select(OTHER, 1));
            due.same("an inner stack whose limit is " + limit, b.x.far(Bench.select(FREE, 3), 0, true),
                    limit < 899 ? STACK : 0);
        }
    }

    private static void whenDown(Due due) {
        due.sentence("-1, and nothing is done, when the machine was DOWN");
        due.same("a call when down", Bench.down().far(4, 0, true), -1);
        due.same("a jump when down", Bench.down().far(0, 0, false), -1);
    }
}
