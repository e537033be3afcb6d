/** The sentences on what instructions answer, on numbers given, on raising and delivering faults, at their edges. */
public final class InstructionEdgesTest {
    private static final int FREE = Bench.FREE;
    private static final int OTHER = Bench.FREE + 1;
    private static final int THIRD = Bench.FREE + 2;
    private static final int STATE = 1200;

    public static void main(String[] args) {
        Due due = new Due();
        firstFault(due);
        whenDown(due);
        wrongSegments(due);
        ipGrows(due);
        ipOfFaults(due);
        ipOfOthers(due);
        nextOfCalls(due);
        nextOfTraps(due);
        nextOfTasks(due);
        selectors(due);
        offsets(due);
        words(due);
        registersGoBack(due);
        stackGoesBack(due);
        flagsGoBack(due);
        memoryStays(due);
        marksStay(due);
        faultAddressStays(due);
        codeAtTheEnd(due);
        doubleFault(due);
        doubleFaultByPages(due);
        down(due);
        downWithTheSecond(due);
        downWithoutAThird(due);
        vectorsWithCodes(due);
        due.finish();
    }

    private static void firstFault(Due due) {
        due.sentence("AN INSTRUCTION answers 0 if it raised no fault, otherwise 65536 * vector + code"
                + " (0 for those without) of the first fault that it raised");
        Bench b = new Bench();
        due.same("no fault", b.x.push(1), 0);
        due.same("a fault with code 0", b.x.read(2, 4095), 65536 * 13);
        due.same("the greatest code", b.x.load(2, 65535), 65536 * 13 + 65532);
        b.gate(13, 0L);
        due.same("one whose delivery raises another", b.x.load(2, 4 * 30), 65536 * 13 + 120);
        due.same("vector 8 was delivered", b.x.register(4), 808);
        b.gate(8, 0L);
        due.same("one whose delivery brings the machine down", b.x.load(2, 4 * 31), 65536 * 13 + 124);
        due.same("the machine is down", b.x.register(12), 1);
    }

    private static String all(RingMachine x) {
        StringBuilder text = new StringBuilder();
        for (int k = 0; k < 13; k++) {
            text.append(x.register(k)).append(' ');
        }
        for (int s = 0; s < 3; s++) {
            for (int what = 0; what < 4; what++) {
                text.append(x.segment(s, what)).append(' ');
            }
        }
        return text.toString();
    }

    /** A bench that has gone down in ring 3. */
    private static Bench gone() {
        Bench b = new Bench().toRing(3);
        b.gate(8, 0L);
        b.gate(13, 0L);
        b.x.read(2, 0);
        return b;
    }

    private static void whenDown(Due due) {
        due.sentence("-1, and nothing is done, when the machine was DOWN");
        Bench b = gone();
        String before = all(b.x);
        due.same("load", b.x.load(2, 0), -1);
        due.same("read", b.x.read(1, 700), -1);
        due.same("write", b.x.write(1, 700, 9), -1);
        due.same("push", b.x.push(9), -1);
        due.same("pop", b.x.pop(), -1);
        due.same("jump", b.x.far(Bench.code(3), 0, false), -1);
        due.same("call", b.x.far(Bench.code(3), 0, true), -1);
        due.same("back", b.x.back(), -1);
        due.same("trap", b.x.trap(3), -1);
        due.same("end", b.x.end(), -1);
        due.same("a load of no segment", b.x.load(0, 0), -1);
        due.same("a read of no segment", b.x.read(3, 0), -1);
        due.same("a write of no segment", b.x.write(-1, 0, 0), -1);
        due.same("registers", all(b.x), before);
        due.same("the word written", b.word(700), 0);
        due.same("the word pushed", b.word(698), 0);
    }

    private static void wrongSegments(Due due) {
        due.sentence("otherwise -2 likewise when a segment is not as said.");
        Bench b = new Bench();
        String before = all(b.x);
        for (int s : new int[] {0, -1, 3, 4, 257, 258, 65537, 65538, Integer.MIN_VALUE, Integer.MAX_VALUE}) {
            due.same("load of segment " + s, b.x.load(s, 8), -2);
        }
        for (int s : new int[] {-1, 3, 4, 256, 258, 65536, 65538, Integer.MIN_VALUE, Integer.MAX_VALUE}) {
            due.same("read of segment " + s, b.x.read(s, 700), -2);
            due.same("write of segment " + s, b.x.write(s, 700, 9), -2);
        }
        due.same("a load that would raise a fault", b.x.load(0, 4 * 30), -2);
        due.same("a read that would raise a fault", b.x.read(3, 4095), -2);
        due.same("a write that would raise a fault", b.x.write(3, 4095, 1), -2);
        due.same("registers", all(b.x), before);
        due.same("memory", b.word(700), 0);
    }

    /** One of the instructions behind which IP grows. */
    private static int instruction(RingMachine x, int which) {
        switch (which) {
            case 0: return x.load(1, 8);
            case 1: return x.load(2, 8);
            case 2: return x.read(2, 700);
            case 3: return x.write(2, 700, 1);
            case 4: return x.push(1);
            default: return x.pop();
        }
    }

    private static void ipGrows(Due due) {
        due.sentence("If it raised none, and is no far transfer, return, trap or end, IP grows by 1 (mod 65536).");
        for (int which = 0; which < 6; which++) {
            for (int ip : new int[] {0, 255, 32767, 65534, 65535}) {
                Bench b = new Bench().toIp(FREE, ip);
                due.same("instruction " + which, instruction(b.x, which), 0);
                due.same("IP behind " + ip, b.x.register(4), ip == 65535 ? 0 : ip + 1);
            }
        }
    }

    private static void ipOfFaults(Due due) {
        due.sentence("If it raised none, and is no far transfer, return, trap or end, IP grows by 1 (mod 65536).");
        for (int ip : new int[] {0, 65535}) {
            Bench b = new Bench().toIp(FREE, ip);
            due.same("a fault at " + ip, b.x.read(2, 4095), Bench.general(0));
            due.same("the IP pushed", b.word(506), ip);
            due.same("IP is the gate's", b.x.register(4), 813);
        }
    }

    private static void ipOfOthers(Due due) {
        due.sentence("If it raised none, and is no far transfer, return, trap or end, IP grows by 1 (mod 65536).");
        Bench b = new Bench();
        b.x.far(4, 100, false);
        due.same("IP behind a jump", b.x.register(4), 100);
        b.x.far(4, 200, true);
        due.same("IP behind a call", b.x.register(4), 200);
        b.x.back();
        due.same("IP behind a return", b.x.register(4), 101);
        b.x.trap(2);
        due.same("IP behind a trap", b.x.register(4), 802);
        b.x.end();
        due.same("IP behind an end", b.x.register(4), 102);
    }

    private static void nextOfCalls(Due due) {
        due.sentence("THE NEXT is IP + 1 (mod 65536).");
        for (int ip : new int[] {0, 32767, 65534, 65535}) {
            int next = ip == 65535 ? 0 : ip + 1;
            Bench b = new Bench().toIp(FREE, ip);
            b.x.far(4, 7, true);
            due.same("a call pushes the next of " + ip, b.word(508), next);
            Bench gate = new Bench().toIp(FREE, ip);
            gate.put(OTHER, Bench.callGate(4, 7, 0, 0));
            gate.x.far(4 * OTHER, 0, true);
            due.same("a gate's call pushes the next of " + ip, gate.word(508), next);
            Bench inner = outerAt(ip);
            inner.put(OTHER, Bench.callGate(4, 7, 3, 0));
            inner.x.far(4 * OTHER, 0, true);
            due.same("a call inwards pushes the next of " + ip, inner.word(Bench.innerSp(0) - 8), next);
        }
    }

    /** A bench in ring 3 at this IP. */
    private static Bench outerAt(int ip) {
        Bench b = new Bench();
        b.put(FREE, Bench.descriptor(0, 65535, Bench.CODE, 3));
        b.push(Bench.data(3), 700, Bench.select(FREE, 3), ip);
        b.x.back();
        return b;
    }

    private static void nextOfTraps(Due due) {
        due.sentence("THE NEXT is IP + 1 (mod 65536).");
        for (int ip : new int[] {0, 65534, 65535}) {
            int next = ip == 65535 ? 0 : ip + 1;
            Bench b = new Bench().toIp(FREE, ip);
            b.x.trap(3);
            due.same("a trap pushes the next of " + ip, b.word(506), next);
            Bench inner = outerAt(ip);
            inner.x.trap(3);
            due.same("a trap inwards pushes the next of " + ip, inner.word(Bench.innerSp(0) - 10), next);
            Bench fault = outerAt(ip);
            fault.x.load(2, 4 * 30);
            due.same("a fault pushes IP itself", fault.word(Bench.innerSp(0) - 10), ip);
        }
    }

    private static void nextOfTasks(Due due) {
        due.sentence("THE NEXT is IP + 1 (mod 65536).");
        for (int way = 0; way < 3; way++) {
            Bench b = new Bench();
            if (way == 2) {
                b.toFlags(2);
            }
            b.toIp(FREE, 65535);
            b.put(OTHER, Bench.descriptor(STATE, 99, way == 2 ? Bench.BUSY : Bench.TASK, 0));
            b.taskState(STATE, 50, 0, 700, 4, 8, 8, 0, 0);
            b.setWord(Bench.STATE, 4 * OTHER);
            b.setWord(Bench.STATE + 14, 99);
            due.same("a switch at IP 65535", way == 2 ? b.x.end() : b.x.far(4 * OTHER, 0, way == 1), 0);
            due.same("the IP saved", b.word(Bench.STATE + 14), 0);
        }
    }

    private static void selectors(Due due) {
        due.sentence("Numbers given as selectors, offsets and words are taken mod 65536.");
        for (int turn : new int[] {65536, -65536, Integer.MIN_VALUE, Integer.MAX_VALUE - 65535}) {
            Bench b = new Bench();
            due.same("DS with another turn", b.x.load(2, turn + Bench.data(2)), 0);
            due.same("DS", b.x.register(2), Bench.data(2));
            due.same("SS with another turn", b.x.load(1, turn + 8), 0);
            due.same("SS", b.x.register(1), 8);
            due.same("DS that is NULL with another turn", b.x.load(2, turn + 3), 0);
            due.same("DS", b.x.register(2), 3);
            due.same("SS that is NULL with another turn", b.x.load(1, turn), Bench.general(0));
            due.same("a jump with another turn", b.x.far(turn + 4, 9, false), 0);
            due.same("CS", b.x.register(0), 4);
            due.same("a jump to NULL with another turn", b.x.far(turn + 2, 9, false), Bench.general(0));
            due.same("a code", b.x.load(2, turn + 4 * 30 + 1), Bench.general(120));
        }
    }

    private static void offsets(Due due) {
        due.sentence("Numbers given as selectors, offsets and words are taken mod 65536.");
        for (int turn : new int[] {65536, -65536, Integer.MIN_VALUE, Integer.MAX_VALUE - 65535}) {
            Bench b = new Bench();
            due.same("a write with another turn", b.x.write(2, turn + 700, 0x1234), 0);
            due.same("the word", b.word(700), 0x1234);
            due.same("a read with another turn", b.x.read(2, turn + 700), 0);
            due.same("the accumulator", b.x.register(11), 0x1234);
            due.same("a jump with another turn", b.x.far(4, turn + 77, false), 0);
            due.same("IP", b.x.register(4), 77);
            due.same("a read beyond the limit with another turn", b.x.read(2, turn + 4095), Bench.general(0));
        }
        due.same("offset -1 is 65535", new Bench().x.read(2, -1), Bench.general(0));
    }

    private static void words(Due due) {
        due.sentence("Numbers given as selectors, offsets and words are taken mod 65536.");
        int[][] cases = {{65535, 65535}, {65536, 0}, {-1, 65535}, {-65536, 0}, {0x12345678, 0x5678},
            {Integer.MAX_VALUE, 65535}, {Integer.MIN_VALUE, 0}};
        for (int[] c : cases) {
            Bench b = new Bench();
            b.x.write(2, 700, c[0]);
            due.same("the word written for " + c[0], b.word(700), c[1]);
            due.same("the byte behind it", b.x.peek(702), 0);
            b.x.push(c[0]);
            due.same("the word pushed for " + c[0], b.word(510), c[1]);
            b.x.pop();
            due.same("the word popped", b.x.register(11), c[1]);
        }
    }

    private static void registersGoBack(Due due) {
        due.sentence("RAISING a fault ends what is done: registers (not the FAULT ADDRESS) are as before it");
        // A return that raises as late as it can: all is popped, the stack is found, the offset is too great.
        Bench b = new Bench().toRing(1);
        b.x.load(2, Bench.data(2));
        b.put(FREE, Bench.descriptor(0, 99, Bench.CODE, 3));
        b.push(Bench.data(3), 640, Bench.select(FREE, 3), 100);
        due.same("a return beyond the limit", b.x.back(), Bench.general(0));
        int sp = Bench.innerSp(0);
        int[] pushed = {Bench.data(1), 692, 0, Bench.code(1), 45, 0};
        for (int i = 0; i < pushed.length; i++) {
            due.same("pushed word " + i, b.word(sp - 2 - 2 * i), pushed[i]);
        }
        due.same("registers", b.state(), "4 8 " + Bench.data(2) + " " + (sp - 12) + " 813 0 0");
        // A call inwards that raises as late as it can.
        Bench inner = new Bench().toRing(2);
        inner.put(FREE, Bench.callGate(Bench.code(1), 4096, 3, 1));
        due.same("a call inwards beyond the limit", inner.x.far(4 * FREE, 0, true), Bench.general(0));
        int[] again = {Bench.data(2), 700, 0, Bench.code(2), 40, 0};
        for (int i = 0; i < again.length; i++) {
            due.same("pushed word " + i, inner.word(sp - 2 - 2 * i), again[i]);
        }
    }

    private static void stackGoesBack(Due due) {
        due.sentence("RAISING a fault ends what is done: registers (not the FAULT ADDRESS) are as before it");
        Bench b = new Bench();
        b.put(FREE, Bench.descriptor(0, 600, Bench.DATA, 3));
        b.toStack(Bench.select(FREE, 3), 602);
        due.same("a push above the limit", b.x.push(5), Bench.fault(12, 0));
        due.same("SP is as before the push", b.word(Bench.innerSp(0) - 4), 602);
        Bench second = new Bench();
        second.put(FREE, Bench.descriptor(0, 601, Bench.DATA, 3));
        second.toStack(Bench.select(FREE, 3), 600);
        due.same("a return with one word on the stack", second.x.back(), Bench.fault(12, 0));
        due.same("SP is as before both pops", second.word(Bench.innerSp(0) - 4), 600);
        Bench read = new Bench().paged();
        read.x.write(2, 64 * 20, 77);
        read.x.read(2, 64 * 20);
        read.setPage(21, 6);
        read.x.pages(1, true);
        due.same("a read half in a page that is not there", read.x.read(2, 64 * 21 - 1), Bench.fault(14, 0));
        due.same("the accumulator is as before", read.x.register(11), 77);
    }

    private static void flagsGoBack(Due due) {
        due.sentence("RAISING a fault ends what is done: registers (not the FAULT ADDRESS) are as before it");
        Bench b = new Bench();
        b.push(3, Bench.select(30, 0), 60);
        due.same("an end beyond COUNT", b.x.end(), Bench.general(120));
        due.same("FLAGS pushed are those before it", b.word(506 - 2), 0);
        due.same("FLAGS", b.x.register(5), 0);
        Bench enabled = new Bench().toFlags(1);
        enabled.push(0, Bench.select(30, 0), 60);
        enabled.gate(13, Bench.descriptor(900, 4, Bench.TRAP, 0));
        due.same("an end beyond COUNT", enabled.x.end(), Bench.general(120));
        due.same("FLAGS", enabled.x.register(5), 1);
    }

    private static void memoryStays(Due due) {
        due.sentence("but what was written in memory stays (also SEEN and CHANGED).");
        Bench b = new Bench().toRing(3);
        b.put(FREE, Bench.descriptor(0, 99, Bench.CODE, 3));
        due.same("a call beyond the limit", b.x.far(Bench.select(FREE, 3), 100, true), Bench.general(0));
        due.same("the pushed CS stays", b.word(698), Bench.code(3));
        due.same("the pushed IP stays", b.word(696), 41);
        due.same("SP is as before", b.word(Bench.innerSp(0) - 4), 700);
        Bench half = new Bench().paged();
        half.setPage(21, 6);
        half.x.pages(1, true);
        due.same("a write half in a page that is not there", half.x.write(2, 64 * 21 - 1, 0x0908), Bench.fault(14, 2));
        due.same("its lower byte stays", half.x.peek(64 * 21 - 1), 8);
    }

    private static void marksStay(Due due) {
        due.sentence("but what was written in memory stays (also SEEN and CHANGED).");
        Bench b = new Bench().paged().toRing(3);
        b.put(FREE, Bench.descriptor(0, 99, Bench.CODE, 3));
        b.x.pages(1, true);
        due.same("a call beyond the limit", b.x.far(Bench.select(FREE, 3), 100, true), Bench.general(0));
        due.same("the page of its stack is changed", b.bitsOfPage(10), 7 + 96);
        due.same("the page of its descriptor is seen", b.bitsOfPage(5), 7 + 32);
        Bench read = new Bench().paged().toRing(3);
        read.put(FREE, Bench.descriptor(0, 4095, Bench.DATA, 0));
        read.x.pages(1, true);
        due.same("a load that is refused", read.x.load(2, 4 * FREE), Bench.general(4 * FREE));
        due.same("the page of its descriptor is seen", read.bitsOfPage(5), 7 + 32);
    }

    private static void faultAddressStays(Due due) {
        due.sentence("registers (not the FAULT ADDRESS) are as before it");
        Bench b = new Bench().paged();
        b.x.pages(1, true);
        b.x.read(2, 64 * 40 + 5);
        due.same("the fault address", b.x.register(10), 64 * 40 + 5);
        // The gates from vector 9 on are in page 8, the one of vector 8 is the last in page 7.
        Bench delivering = new Bench().paged().toRing(3);
        delivering.x.tables(Bench.TABLE, Bench.COUNT, Bench.VECTORS - 8 * 9);
        for (int v = 0; v < 16; v++) {
            delivering.x.fill(Bench.VECTORS - 8 * 9 + 8 * v, Bench.descriptor(800 + v, 4, Bench.TRAP, 3));
        }
        delivering.setPage(8, 6);
        delivering.x.pages(1, true);
        due.same("a fault whose gate is in no page", delivering.x.read(2, 0), Bench.general(0));
        due.same("vector 8 is delivered", delivering.x.register(4), 808);
        due.same("the fault address of the delivery stays", delivering.x.register(10), Bench.VECTORS + 32);
    }

    private static void codeAtTheEnd(Due due) {
        due.sentence("Then it is DELIVERED: through the gate of its vector, with its code pushed at the end.");
        int[][] cases = {{10, 4 * THIRD}, {11, 4 * THIRD}, {12, 4 * THIRD}, {13, 4 * THIRD}};
        for (int[] c : cases) {
            Bench b = new Bench().toRing(3);
            b.put(FREE, Bench.callGate(Bench.code(1), 7, 3, 0));
            b.innerStack(Bench.STATE, 1, 900, Bench.select(THIRD, 1));
            long data = Bench.descriptor(0, 4095, Bench.DATA, 1);
            b.put(THIRD, c[0] == 12 ? Bench.absent(data) : data + (c[0] == 10 ? 1L << 40 : 0L));
            int got;
            if (c[0] == 11) {
                b.put(THIRD, Bench.absent(Bench.descriptor(0, 4095, Bench.DATA, 3)));
                got = b.x.load(2, Bench.select(THIRD, 3));
            } else {
                got = c[0] == 13 ? b.x.load(2, 4 * THIRD) : b.x.far(4 * FREE, 0, true);
            }
            due.same("a fault of vector " + c[0], got, Bench.fault(c[0], c[1]));
            due.same("the gate", b.x.register(4), 800 + c[0]);
            due.same("the code is the last word pushed", b.word(b.x.register(3)), c[1]);
            due.same("behind IP", b.word(b.x.register(3) + 2), 40);
        }
        Bench page = new Bench().paged().toRing(3);
        page.x.load(2, Bench.data(3));
        page.x.pages(1, true);
        due.same("a fault of vector 14", page.x.write(2, 64 * 40, 1), Bench.fault(14, 6));
        due.same("the gate", page.x.register(4), 814);
        due.same("the code is the last word pushed", page.word(page.x.register(3)), 6);
    }

    /** A fault of vector 13 in ring 3 whose delivery raises another, and vector 8 is delivered in its place. */
    private static void doubled(Due due, String what, Bench b) {
        due.same(what, b.x.load(2, 4 * 30), Bench.general(120));
        int sp = Bench.innerSp(0);
        due.same(what + ": registers", b.state(), "4 8 0 " + (sp - 12) + " 808 0 0");
        int[] pushed = {Bench.data(3), 700, 0, Bench.code(3), 40, 0};
        for (int i = 0; i < pushed.length; i++) {
            due.same(what + ": pushed word " + i, b.word(sp - 2 - 2 * i), pushed[i]);
        }
        due.same(what + ": down", b.x.register(12), 0);
    }

    private static Bench with13(int selector, int offset) {
        Bench b = new Bench().toRing(3);
        b.gate(13, Bench.descriptor(offset, selector, Bench.TRAP, 3));
        return b;
    }

    private static void doubleFault(Due due) {
        due.sentence("If that raises a fault, registers are as before the delivery,"
                + " and vector 8 with code 0 is delivered instead");
        Bench gate = with13(4, 900);
        gate.gate(13, Bench.descriptor(900, 4, Bench.GATE, 3));
        doubled(due, "a gate of a wrong kind", gate);
        Bench absent = with13(4, 900);
        absent.gate(13, Bench.absent(Bench.descriptor(900, 4, Bench.TRAP, 3)));
        doubled(due, "a gate that isn't present", absent);
        doubled(due, "a target that is NULL", with13(3, 900));
        doubled(due, "a target beyond COUNT", with13(4 * 30, 900));
        doubled(due, "a target that is data", with13(8, 900));
        Bench code = with13(4 * FREE, 900);
        code.put(FREE, Bench.absent(Bench.descriptor(0, 4095, Bench.CODE, 0)));
        doubled(due, "a target that isn't present", code);
        doubled(due, "a target beyond its limit", with13(4, 4096));
        Bench noStack = with13(Bench.code(1), 900);
        noStack.innerStack(Bench.STATE, 1, 900, 0);
        doubled(due, "an inner stack that is NULL", noStack);
        Bench absentStack = with13(Bench.code(1), 900);
        absentStack.innerStack(Bench.STATE, 1, 900, Bench.select(FREE, 1));
        absentStack.put(FREE, Bench.absent(Bench.descriptor(0, 4095, Bench.DATA, 1)));
        doubled(due, "an inner stack that isn't present", absentStack);
        Bench full = with13(Bench.code(1), 900);
        full.innerStack(Bench.STATE, 1, 8, Bench.data(1));
        doubled(due, "an inner stack that is full", full);
        due.same("what fitted in stays", full.word(6), Bench.data(3));
        Bench narrow = with13(Bench.code(1), 900);
        narrow.innerStack(Bench.STATE, 1, 10, Bench.data(1));
        doubled(due, "an inner stack without room for the code", narrow);
        due.same("IP stays there", narrow.word(0), 40);
    }

    private static void doubleFaultByPages(Due due) {
        due.sentence("If that raises a fault, registers are as before the delivery,"
                + " and vector 8 with code 0 is delivered instead");
        Bench b = with13(Bench.code(1), 900).paged();
        b.innerStack(Bench.STATE, 1, 64 * 21, Bench.data(1));
        b.setPage(20, 6);
        b.x.pages(1, true);
        doubled(due, "an inner stack in no page", b);
        due.same("its fault address", b.x.register(10), 64 * 21 - 2);
        Bench state = with13(Bench.code(1), 900).paged();
        state.put(FREE, Bench.descriptor(64 * 21 - 6, 99, Bench.TASK, 3));
        state.taskState(64 * 21 - 6, 40, 0, 700, Bench.code(3), Bench.data(3), 0, 3, 1);
        state.innerStack(64 * 21 - 6, 0, Bench.innerSp(0), 8);
        state.x.far(Bench.select(FREE, 3), 0, false);
        state.setPage(21, 6);
        state.x.pages(1, true);
        doubled(due, "a task state whose words for ring 1 are in no page", state);
        due.same("its fault address", state.x.register(10), 64 * 21);
    }

    private static void down(Due due) {
        due.sentence("if that raises one, the machine is DOWN.");
        for (int offset : new int[] {900, 4096}) {
            Bench b = new Bench().toRing(3);
            b.gate(13, 0L);
            b.gate(8, Bench.descriptor(offset, offset == 900 ? 4 * 30 : 4, Bench.TRAP, 3));
            String before = all(b.x);
            due.same("a fault", b.x.load(2, 4 * 30), Bench.general(120));
            due.same("registers are as before, and 12 is 1", all(b.x), before.replaceFirst("^((\\d+ ){12})0", "$11"));
            due.same("what vector 8 pushed stays", b.word(Bench.innerSp(0) - 2), offset == 900 ? 0 : Bench.data(3));
            due.same("an instruction", b.x.push(1), -1);
            due.no("tables", b.x.tables(0, 0, 0));
            due.no("pages", b.x.pages(0, false));
            due.yes("poke", b.x.poke(3, 4));
            due.same("peek", b.x.peek(3), 4);
            due.yes("fill", b.x.fill(8, 5));
            due.same("peek", b.x.peek(8), 5);
        }
    }

    private static void downWithTheSecond(Due due) {
        due.sentence("if that raises one, the machine is DOWN.");
        Bench one = new Bench();
        one.gate(8, 0L);
        due.same("a fault that is delivered", one.x.read(2, 4095), Bench.general(0));
        due.same("is not the machine's end", one.x.register(12), 0);
        Bench two = new Bench();
        two.gate(13, 0L);
        due.same("nor is one whose second is", two.x.read(2, 4095), Bench.general(0));
        due.same("down", two.x.register(12), 0);
        due.same("and again", two.x.read(2, 4095), Bench.general(0));
        due.same("down", two.x.register(12), 0);
        two.gate(8, 0L);
        due.same("but without both gates", two.x.read(2, 4095), Bench.general(0));
        due.same("it is down", two.x.register(12), 1);
    }

    /** What the delivery of vector 8 pushes mends its own gate, but it is not delivered once more. */
    private static void downWithoutAThird(Due due) {
        due.sentence("if that raises one, the machine is DOWN.");
        Bench b = new Bench();
        int gate = Bench.VECTORS + 8 * 8;
        for (int sp = 512; sp < gate + 2; sp += 2) {
            b.x.pop();
        }
        b.gate(13, 0L);
        b.gate(8, Bench.descriptor(4096, 4, Bench.TRAP, 3));
        due.same("a fault", b.x.load(2, 4 * 30), Bench.general(120));
        due.same("FLAGS were pushed on the gate's offset", b.word(gate), 0);
        due.same("the machine is down", b.x.register(12), 1);
    }

    private static void vectorsWithCodes(Due due) {
        due.sentence("Vectors with codes are 8, 10 .. 14.");
        for (int v = 0; v < 16; v++) {
            Bench b = new Bench();
            b.x.trap(v);
            due.same("a trap by vector " + v + " pushes three words", b.x.register(3), 506);
        }
        Bench b = new Bench();
        b.gate(13, 0L);
        b.x.load(2, 4 * 30);
        due.same("vector 8 pushes four words", b.x.register(3), 504);
        due.same("the last of which is code 0", b.word(504), 0);
        Bench general = new Bench();
        general.x.load(2, 4 * 30);
        due.same("vector 13 pushes four words", general.x.register(3), 504);
        due.same("the last of which is its code", general.word(504), 120);
    }
}
