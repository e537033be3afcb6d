/** Promises 8 and 9: read and write. */
public final class ReadWriteTest {
    private static final int FREE = Bench.FREE;

    public static void main(String[] args) {
        Due due = new Due();
        ordinary(due);
        wrongSegments(due);
        limits(due);
        kinds(due);
        nulls(due);
        numbers(due);
        instructionPointer(due);
        due.finish();
    }

    private static void ordinary(Due due) {
        for (int s = 1; s < 3; s++) {
            Bench b = new Bench();
            due.same("write in segment " + s, b.x.write(s, 650, 0xABCD), 0);
            due.same("the lower byte is first", b.x.peek(650), 0xCD);
            due.same("then the higher one", b.x.peek(651), 0xAB);
            due.same("the accumulator", b.x.register(11), 0);
            due.same("read in segment " + s, b.x.read(s, 650), 0);
            due.same("the accumulator", b.x.register(11), 0xABCD);
            due.same("registers", b.state(), "4 8 8 512 2 0 0");
        }
        Bench b = new Bench();
        b.setWord(651, 0x1122);
        due.same("read in CS", b.x.read(0, 651), 0);
        due.same("the accumulator", b.x.register(11), 0x1122);
        b.put(FREE, Bench.descriptor(640, 100, Bench.DATA, 0));
        b.x.load(2, 4 * FREE);
        due.same("read with a base", b.x.read(2, 11), 0);
        due.same("the accumulator", b.x.register(11), 0x1122);
        due.same("write with a base", b.x.write(2, 20, 0x3344), 0);
        due.same("the word", b.word(660), 0x3344);
    }

    private static void wrongSegments(Due due) {
        Bench b = new Bench();
        for (int s : new int[] {-1, 3, Integer.MIN_VALUE, Integer.MAX_VALUE}) {
            due.same("read in segment " + s, b.x.read(s, 0), -2);
            due.same("write in segment " + s, b.x.write(s, 0, 1), -2);
        }
        due.same("registers", b.state(), "4 8 8 512 0 0 0");
        due.same("memory", b.word(0), 0);
        RingMachine down = Bench.down();
        due.same("read when down", down.read(2, 0), -1);
        due.same("read of a wrong segment when down", down.read(3, 0), -1);
        due.same("write when down", down.write(2, 0, 1), -1);
        due.same("write of a wrong segment when down", down.write(-1, 0, 1), -1);
        due.same("memory when down", down.peek(0), 0);
    }

    private static void limits(Due due) {
        Bench b = new Bench();
        b.put(FREE, Bench.descriptor(640, 9, Bench.DATA, 0));
        b.put(FREE + 1, Bench.descriptor(0, 65535, Bench.DATA, 0));
        b.put(FREE + 2, Bench.descriptor(0, 0, Bench.DATA, 0));
        b.x.load(2, 4 * FREE);
        due.same("the last word", b.x.read(2, 8), 0);
        due.same("half a word", b.x.read(2, 9), Bench.general(0));
        due.same("the last word, written", b.x.write(2, 8, 5), 0);
        due.same("half a word, written", b.x.write(2, 9, 5), Bench.general(0));
        due.same("the byte is not written", b.x.peek(649), 0);
        b.x.load(2, 4 * (FREE + 1));
        due.same("the last word of the greatest segment", b.x.read(2, 65534), 0);
        due.same("offset 65535 does not wrap", b.x.read(2, 65535), Bench.general(0));
        b.x.load(2, 4 * (FREE + 2));
        due.same("a limit of 0", b.x.read(2, 0), Bench.general(0));
        due.same("the limit of SS, read", b.x.read(1, 4095), Bench.fault(12, 0));
        due.same("the limit of SS, written", b.x.write(1, 4095, 1), Bench.fault(12, 0));
        due.same("the limit of CS", b.x.read(0, 4095), Bench.general(0));
    }

    private static void kinds(Due due) {
        for (int kind = 1; kind < 5; kind++) {
            Bench b = new Bench();
            b.put(FREE, Bench.descriptor(640, 9, kind, 0));
            b.x.load(2, 4 * FREE);
            due.same("read of kind " + kind, b.x.read(2, 0), 0);
            due.same("write of kind " + kind, b.x.write(2, 0, 77), kind == 4 ? 0 : Bench.general(0));
            due.same("the word of kind " + kind, b.word(640), kind == 4 ? 77 : 0);
        }
        Bench b = new Bench();
        due.same("a write in CS", b.x.write(0, 640, 1), Bench.general(0));
    }

    private static void nulls(Due due) {
        Bench b = new Bench();
        b.x.load(2, 0);
        due.same("a read in NULL", b.x.read(2, 0), Bench.general(0));
        due.same("a write in NULL", b.x.write(2, 0, 1), Bench.general(0));
        due.same("the code pushed", b.word(b.x.register(3)), 0);
    }

    private static void numbers(Due due) {
        Bench b = new Bench();
        due.same("offset and word are taken mod 65536", b.x.write(2, 65536 + 650, 65536 * 5 + 0x1234), 0);
        due.same("the word", b.word(650), 0x1234);
        due.same("a negative offset", b.x.read(2, 650 - 65536), 0);
        due.same("the accumulator", b.x.register(11), 0x1234);
        due.same("a negative word", b.x.write(2, 652, -2), 0);
        due.same("the word", b.word(652), 65534);
        due.same("offset -1", b.x.read(2, -1), Bench.general(0));
        due.same("offset 32768 + 654", b.x.write(2, 32768 + 654, 5), Bench.general(0));
        due.same("the word at 654", b.word(654), 0);
    }

    private static void instructionPointer(Due due) {
        Bench b = new Bench();
        b.put(FREE, Bench.descriptor(0, 65535, Bench.CODE, 0));
        b.x.far(4 * FREE, 65535, false);
        due.same("IP ahead", b.x.register(4), 65535);
        b.x.read(2, 0);
        due.same("IP grows mod 65536", b.x.register(4), 0);
        b.x.far(4 * FREE, 32767, false);
        b.x.read(2, 0);
        due.same("IP grows beyond 32767", b.x.register(4), 32768);
        b.setWord(700, 9);
        b.x.read(2, 700);
        b.x.read(2, 4095);
        due.same("the accumulator stays when a fault is raised", b.x.register(11), 9);
    }
}
