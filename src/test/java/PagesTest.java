/** Promise 6 and the ways of bytes through the pages. */
public final class PagesTest {
    private static final int ALL = 7;

    public static void main(String[] args) {
        Due due = new Due();
        directory(due);
        whenDown(due);
        beyondMemory(due);
        translation(due);
        seenAndChanged(due);
        notPresent(due);
        outermostRing(due);
        innerRings(due);
        acrossPages(due);
        system(due);
        due.finish();
    }

    private static void directory(Due due) {
        RingMachine x = new RingMachine();
        int[][] cases = {{0, 0}, {31, 31}, {32, 0}, {-1, 31}, {65, 1}, {Integer.MIN_VALUE, 0}, {Integer.MAX_VALUE, 31}};
        for (int[] c : cases) {
            due.yes("pages " + c[0], x.pages(c[0], false));
            due.same("DIRECTORY after " + c[0], x.register(9), c[1]);
        }
        due.same("pages are off", x.read(2, 0), 0);
        due.yes("pages on", x.pages(1, true));
        due.same("pages are on", x.read(2, 0), Bench.fault(14, 0));
    }

    private static void whenDown(Due due) {
        RingMachine x = Bench.down();
        due.no("pages when down", x.pages(5, true));
        due.same("DIRECTORY when down", x.register(9), 0);
    }

    private static void beyondMemory(Due due) {
        Bench b = new Bench();
        b.x.poke(2047, 7);
        due.same("a read at the end of memory", b.x.read(2, 2047), 0);
        due.same("half of it is 255", b.x.register(11), 7 + 256 * 255);
        due.same("a read beyond memory", b.x.read(2, 3000), 0);
        due.same("it is all ones", b.x.register(11), 65535);
        due.same("a write beyond memory", b.x.write(2, 3000, 5), 0);
        due.same("a read of it", b.x.read(2, 3000), 0);
        due.same("it is lost", b.x.register(11), 65535);
        due.same("nothing was written elsewhere", b.x.peek(3000 - 2048), 0);
        due.same("a write at the end of memory", b.x.write(2, 2047, 0x0304), 0);
        due.same("its lower byte", b.x.peek(2047), 4);
        due.same("its higher byte is lost", b.x.peek(0), 0);
        b.put(Bench.FREE, Bench.descriptor(4095, 100, Bench.DATA, 0));
        b.x.load(2, 4 * Bench.FREE);
        due.same("a write round the end", b.x.write(2, 0, 0x0506), 0);
        due.same("its higher byte is at 0", b.x.peek(0), 5);
        due.same("a write in the second turn", b.x.write(2, 21, 0x0708), 0);
        due.same("it is at 20", b.word(20), 0x0708);
    }

    private static void translation(Due due) {
        Bench b = new Bench().paged();
        b.setWord(70, Bench.entry(3, ALL));
        b.setWord(192 + 2 * 5, Bench.entry(30, ALL));
        b.setWord(30 * 64 + 10, 0x1234);
        due.yes("pages on", b.x.pages(33, true));
        due.same("a read in page 53", b.x.read(2, 64 * 53 + 10), 0);
        due.same("the word of frame 30", b.x.register(11), 0x1234);
        due.same("a read in page 21", b.x.read(2, 64 * 21 + 10), 0);
        due.same("the same word", b.x.register(11), 0x1234);
        due.same("a write in page 53", b.x.write(2, 64 * 53 + 12, 0x4321), 0);
        due.same("it is in frame 30", b.word(30 * 64 + 12), 0x4321);
        due.same("poke stays in memory", b.x.poke(64 * 21, 9) ? b.x.peek(64 * 21) : -1, 9);
        due.yes("pages off", b.x.pages(1, false));
        due.same("a read with pages off", b.x.read(2, 64 * 21), 0);
        due.same("the byte in memory itself", b.x.register(11), 9);
    }

    private static void seenAndChanged(Due due) {
        Bench b = new Bench().paged();
        b.x.pages(1, true);
        b.x.read(2, 64 * 20);
        due.same("the directory entry is seen", b.word(66), Bench.entry(3, ALL + 32));
        due.same("the table entry is seen", b.word(192 + 8), Bench.entry(20, ALL + 32));
        due.same("the one beside it is not", b.word(192 + 10), Bench.entry(21, ALL));
        due.same("the other directory entry is not", b.word(64), Bench.entry(2, ALL));
        b.x.write(2, 64 * 20, 5);
        due.same("the directory entry is not changed", b.word(66), Bench.entry(3, ALL + 32));
        due.same("the table entry is changed", b.word(192 + 8), Bench.entry(20, ALL + 96));
        b.x.read(2, 64 * 20);
        due.same("and stays so", b.word(192 + 8), Bench.entry(20, ALL + 96));
    }

    private static void notPresent(Due due) {
        Bench b = new Bench().paged();
        b.setWord(192 + 2 * 9, Bench.entry(25, 6));
        b.x.pages(1, true);
        due.same("a read in a page that is not there", b.x.read(2, 64 * 25 + 3), Bench.fault(14, 0));
        due.same("the fault address", b.x.register(10), 64 * 25 + 3);
        due.same("its entry", b.word(192 + 2 * 9), Bench.entry(25, 6));
        due.same("the directory entry", b.word(66), Bench.entry(3, ALL));
        due.same("the code pushed", b.word(b.x.register(3)), 0);
        due.same("the gate's offset", b.x.register(4), 814);
        due.same("a write", b.x.write(2, 64 * 25 + 3, 1), Bench.fault(14, 2));
        due.same("the code pushed for a write", b.word(b.x.register(3)), 2);
        due.same("a read without a directory entry", b.x.read(2, 64 * 40 + 1), Bench.fault(14, 0));
        due.same("the fault address there", b.x.register(10), 64 * 40 + 1);
        b.toRing(3);
        b.x.load(2, Bench.data(3));
        due.same("a read by ring 3", b.x.read(2, 64 * 25), Bench.fault(14, 4));
        b.toRing(3);
        b.x.load(2, Bench.data(3));
        due.same("a write by ring 3", b.x.write(2, 64 * 40, 0), Bench.fault(14, 6));
        due.same("the fault address is kept", b.x.register(10), 64 * 40);
        b.x.read(2, 4095);
        due.same("by another fault too", b.x.register(10), 64 * 40);
    }

    /** What ring 3 is answered when it reads, then writes, page 20 with these bits in its two entries. */
    private static void outermost(Due due, int directory, int table, int read, int write) {
        for (int writing = 0; writing < 2; writing++) {
            Bench b = new Bench().paged();
            b.toRing(3);
            b.x.load(2, Bench.data(3));
            b.setWord(66, Bench.entry(3, directory));
            b.setWord(192 + 8, Bench.entry(20, table));
            b.x.pages(1, true);
            int got = writing == 0 ? b.x.read(2, 64 * 20 + 2) : b.x.write(2, 64 * 20 + 2, 7);
            due.same("ring 3, bits " + directory + " and " + table + (writing == 0 ? " read" : " write"),
                    got, writing == 0 ? read : write);
            due.same("the fault address", b.x.register(10), got == 0 ? 0 : 64 * 20 + 2);
        }
    }

    private static void outermostRing(Due due) {
        outermost(due, 7, 7, 0, 0);
        outermost(due, 3, 7, Bench.fault(14, 5), Bench.fault(14, 7));
        outermost(due, 7, 3, Bench.fault(14, 5), Bench.fault(14, 7));
        outermost(due, 5, 7, 0, Bench.fault(14, 7));
        outermost(due, 7, 5, 0, Bench.fault(14, 7));
        outermost(due, 7, 2, Bench.fault(14, 4), Bench.fault(14, 6));
        outermost(due, 1, 6, Bench.fault(14, 4), Bench.fault(14, 6));
    }

    private static void innerRings(Due due) {
        for (int ring = 0; ring < 3; ring++) {
            Bench b = new Bench().paged();
            b.toRing(ring);
            b.x.load(2, Bench.data(ring));
            b.setWord(66, Bench.entry(3, 1));
            b.setWord(192 + 8, Bench.entry(20, 1));
            b.x.pages(1, true);
            due.same("a write of ring " + ring + " in a page that is neither open nor writable",
                    b.x.write(2, 64 * 20, 7), 0);
            due.same("its entry", b.word(192 + 8), Bench.entry(20, 97));
        }
    }

    private static void acrossPages(Due due) {
        Bench b = new Bench().paged();
        b.setWord(192 + 2 * 9, Bench.entry(25, 6));
        b.x.pages(1, true);
        due.same("a write into a missing page", b.x.write(2, 64 * 25 - 1, 0x0908), Bench.fault(14, 2));
        due.same("its lower byte stays", b.x.peek(64 * 25 - 1), 8);
        due.same("the fault address is the higher byte's", b.x.register(10), 64 * 25);
        due.same("the lower byte's page is changed", b.word(192 + 2 * 8), Bench.entry(24, ALL + 96));
        b.setWord(192 + 2 * 9, Bench.entry(20, ALL));
        due.same("a write into two frames", b.x.write(2, 64 * 25 - 1, 0x0706), 0);
        due.same("the lower byte", b.x.peek(64 * 25 - 1), 6);
        due.same("the higher byte", b.x.peek(64 * 20), 7);
    }

    private static void system(Due due) {
        Bench b = new Bench().paged();
        b.toRing(3);
        for (int page = 4; page < 8; page++) {
            b.setWord(128 + 2 * page, Bench.entry(page, 1));
        }
        b.x.pages(1, true);
        due.same("ring 3 has descriptors looked up in a page that is not open", b.x.load(2, Bench.data(3)), 0);
        due.same("but can't read there", b.x.read(2, Bench.TABLE), Bench.fault(14, 5));
        due.same("and goes inwards", b.x.register(6), 0);
        Bench none = new Bench().paged();
        none.toRing(3);
        none.setWord(128 + 2 * 5, Bench.entry(5, 6));
        none.x.pages(1, true);
        due.same("a descriptor that is not there", none.x.load(2, Bench.data(3)), Bench.fault(14, 0));
        due.same("the fault address is its first byte", none.x.register(10), Bench.TABLE + 8 * 8);
        due.same("the fault is delivered", none.x.register(4), 814);
        Bench nowhere = new Bench().paged();
        nowhere.toRing(3);
        nowhere.setWord(128 + 2 * 4, Bench.entry(4, 6));
        nowhere.setWord(128 + 2 * 5, Bench.entry(5, 6));
        nowhere.x.pages(1, true);
        due.same("a table that is not there", nowhere.x.load(2, Bench.data(3)), Bench.fault(14, 0));
        due.same("the machine is down, for no target can be looked up", nowhere.x.register(12), 1);
        due.same("the fault address is the target's", nowhere.x.register(10), Bench.TABLE + 8);
        Bench half = new Bench().paged();
        half.x.tables(316 - 8 * Bench.FREE, 32, Bench.VECTORS);
        half.setWord(128 + 2 * 5, Bench.entry(5, 0));
        half.x.pages(1, true);
        due.same("a descriptor across pages", half.x.load(2, 4 * Bench.FREE), Bench.fault(14, 0));
        due.same("the fault address is in the second page", half.x.register(10), 320);
    }
}
