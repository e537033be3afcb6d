/** Promises 10 and 11: push and pop. */
public final class StackTest {
    private static final int FREE = Bench.FREE;

    public static void main(String[] args) {
        Due due = new Due();
        ordinary(due);
        limits(due);
        wrapping(due);
        failing(due);
        nullStack(due);
        whenDown(due);
        due.finish();
    }

    private static void ordinary(Due due) {
        Bench b = new Bench();
        due.same("push", b.x.push(0x1234), 0);
        due.same("registers", b.state(), "4 8 8 510 1 0 0");
        due.same("the word", b.word(510), 0x1234);
        due.same("another push", b.x.push(65536 + 7), 0);
        due.same("the word is taken mod 65536", b.word(508), 7);
        due.same("push of -1", b.x.push(-1), 0);
        due.same("the word", b.word(506), 65535);
        due.same("pop", b.x.pop(), 0);
        due.same("the accumulator", b.x.register(11), 65535);
        b.x.pop();
        due.same("pop", b.x.pop(), 0);
        due.same("the accumulator", b.x.register(11), 0x1234);
        due.same("registers", b.state(), "4 8 8 512 6 0 0");
        b.put(FREE, Bench.descriptor(100, 4095, Bench.DATA, 0));
        b.x.load(1, 4 * FREE);
        due.same("push with a base", b.x.push(55), 0);
        due.same("the word", b.word(610), 55);
    }

    private static void limits(Due due) {
        Bench b = new Bench();
        b.put(FREE, Bench.descriptor(0, 511, Bench.DATA, 0));
        b.x.load(1, 4 * FREE);
        due.same("push below the limit", b.x.push(3), 0);
        due.same("pop below the limit", b.x.pop(), 0);
        int ip = b.x.register(4);
        due.same("pop at the limit", b.x.pop(), Bench.fault(12, 0));
        due.same("registers", b.state(), "4 " + 4 * FREE + " 8 504 812 0 0");
        due.same("the code", b.word(504), 0);
        due.same("IP is that of the instruction", b.word(506), ip);
        due.same("CS", b.word(508), 4);
        due.same("FLAGS", b.word(510), 0);
        due.same("the accumulator stays", b.x.register(11), 3);
    }

    private static void wrapping(Due due) {
        Bench b = new Bench();
        b.put(FREE, Bench.descriptor(0, 65535, Bench.DATA, 1));
        b.push(Bench.select(FREE, 1), 0, Bench.code(1), 40);
        b.x.back();
        due.same("SP", b.x.register(3), 0);
        due.same("push at SP 0", b.x.push(0x4567), 0);
        due.same("SP falls mod 65536", b.x.register(3), 65534);
        due.same("pop", b.x.pop(), 0);
        due.same("SP grows mod 65536", b.x.register(3), 0);
        due.same("what is beyond memory is all ones", b.x.register(11), 65535);
        Bench middle = new Bench();
        middle.put(FREE, Bench.descriptor(0, 65535, Bench.DATA, 1));
        middle.push(Bench.select(FREE, 1), 32766, Bench.code(1), 40);
        middle.x.back();
        due.same("pop at SP 32766", middle.x.pop(), 0);
        due.same("SP grows beyond 32767", middle.x.register(3), 32768);
        Bench odd = new Bench();
        odd.put(FREE, Bench.descriptor(0, 65535, Bench.DATA, 3));
        odd.push(Bench.select(FREE, 3), 1, Bench.code(3), 40);
        odd.x.back();
        due.same("push at SP 1", odd.x.push(1), Bench.fault(12, 0));
        due.same("it goes inwards with SP as before", odd.word(Bench.innerSp(0) - 4), 1);
    }

    private static void failing(Due due) {
        Bench b = new Bench();
        b.put(FREE, Bench.descriptor(0, 511, Bench.DATA, 3));
        b.push(Bench.select(FREE, 3), 600, Bench.code(3), 40);
        b.x.back();
        due.same("push above the limit", b.x.push(1), Bench.fault(12, 0));
        due.same("registers", b.state(), "4 8 0 " + (Bench.innerSp(0) - 12) + " 812 0 0");
        due.same("the old SP is as before the push", b.word(Bench.innerSp(0) - 4), 600);
        due.same("the old SS", b.word(Bench.innerSp(0) - 2), Bench.select(FREE, 3));
        due.same("nothing is written", b.word(598), 0);
    }

    /** A task whose SS can't be taken leaves SS NULL behind. */
    private static void nullStack(Due due) {
        Bench b = new Bench();
        b.put(FREE, Bench.descriptor(1200, 99, Bench.TASK, 0));
        b.taskState(1200, 50, 0, 700, Bench.code(3), 0, 0, 3, 0);
        for (int ring = 0; ring < 3; ring++) {
            b.innerStack(1200, ring, Bench.innerSp(ring), Bench.data(ring));
        }
        b.gate(10, Bench.descriptor(810, Bench.select(FREE + 1, 0), Bench.TRAP, 3));
        b.put(FREE + 1, Bench.descriptor(0, 4095, Bench.CONFORMING, 0));
        due.same("a switch to a task without SS", b.x.far(4 * FREE, 0, false), Bench.fault(10, 0));
        due.same("vector 10 can't push, vector 8 goes inwards", b.x.register(4), 808);
        due.same("the old SS is 0", b.word(Bench.innerSp(0) - 2), 0);
    }

    private static void whenDown(Due due) {
        RingMachine x = Bench.down();
        due.same("push when down", x.push(1), -1);
        due.same("pop when down", x.pop(), -1);
        due.same("SP when down", x.register(3), 512);
        due.same("memory when down", x.peek(510), 0);
    }
}
