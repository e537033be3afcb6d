/** The sentences on memory, linear addresses and pages, and promises 1 to 4 and 6, each at its edges. */
public final class MemoryEdgesTest {
    private static final int FREE = Bench.FREE;
    /** A page whose directory entry is that of no page of the bench, so it can be anything. */
    private static final int FAR_PAGE = 40;
    private static final int FAR_DIRECTORY_ENTRY = Bench.directoryEntry(FAR_PAGE);
    private static final int FAR_TABLE = 28;
    private static final int FAR_TABLE_ENTRY = 64 * FAR_TABLE + 2 * (FAR_PAGE % 16);
    private static final int FAR_FRAME = 30;

    public static void main(String[] args) {
        Due due = new Due();
        frames(due);
        words(due);
        linearWithoutPages(due);
        linearWithPages(due);
        linearTables(due);
        linearStates(due);
        pagesOff(due);
        pagesOn(due);
        directories(due);
        entryBits(due);
        beyondMemory(due);
        beyondMemoryTables(due);
        bySystem(due);
        pageFaults(due);
        faultAddresses(due);
        seenAndChanged(due);
        ownEntry(due);
        bothEntriesInOne(due);
        wordsAcrossPages(due);
        newObject(due);
        poke(due);
        peek(due);
        fill(due);
        pages(due);
        due.finish();
    }

    private static void frames(Due due) {
        due.sentence("MEMORY has 2048 bytes, in 32 FRAMES of 64.");
        RingMachine x = new RingMachine();
        due.yes("poke at the first byte", x.poke(0, 1));
        due.yes("poke at the last byte", x.poke(2047, 2));
        due.no("poke ahead of memory", x.poke(-1, 3));
        due.no("poke behind memory", x.poke(2048, 4));
        due.same("the first byte", x.peek(0), 1);
        due.same("the last byte", x.peek(2047), 2);
        Bench b = new Bench().paged();
        b.mapPage(20, 31, 7);
        b.mapPage(21, 0, 7);
        b.x.pages(1, true);
        due.same("a write at the end of frame 31", b.x.write(2, 64 * 20 + 62, 0x0201), 0);
        due.same("the last word of memory", b.word(2046), 0x0201);
        due.same("a write at the start of frame 0", b.x.write(2, 64 * 21, 0x0403), 0);
        due.same("the first word of memory", b.word(0), 0x0403);
    }

    private static void words(Due due) {
        due.sentence("A WORD is two bytes, the lower one first.");
        Bench b = new Bench();
        b.x.write(2, 700, 0xFF00);
        due.same("the first byte of 0xFF00", b.x.peek(700), 0);
        due.same("the second byte of 0xFF00", b.x.peek(701), 255);
        b.x.poke(701, 0);
        b.x.poke(700, 255);
        b.x.read(2, 700);
        due.same("the word read", b.x.register(11), 255);
    }

    /** A bench whose DS has this base and the greatest limit. */
    private static Bench based(int base) {
        Bench b = new Bench();
        b.put(FREE, Bench.descriptor(base, 65535, Bench.DATA, 0));
        b.x.load(2, 4 * FREE);
        return b;
    }

    private static void linearWithoutPages(Due due) {
        due.sentence("LINEAR addresses are 0 .. 4095 (taken mod 4096).");
        int[][] cases = {{4096, 700}, {700, 4096}, {65535, 701}, {61440, 700}, {0, 4096 + 700}, {32768, 32768 + 700}};
        for (int[] c : cases) {
            Bench b = based(c[0]);
            int place = (c[0] + c[1]) % 4096;
            due.same("a write at " + c[0] + " + " + c[1], b.x.write(2, c[1], 0x1234), 0);
            due.same("the word at " + place, b.word(place), 0x1234);
            due.same("a read there", b.x.read(2, c[1]), 0);
            due.same("the accumulator", b.x.register(11), 0x1234);
        }
        Bench b = based(0);
        due.same("a write at 4095", b.x.write(2, 4095, 0x0506), 0);
        due.same("its higher byte is at 0", b.x.peek(0), 5);
        due.same("a read at 4095", b.x.read(2, 4095), 0);
        due.same("its lower byte is beyond memory", b.x.register(11), 0x05FF);
    }

    private static void linearWithPages(Due due) {
        due.sentence("LINEAR addresses are 0 .. 4095 (taken mod 4096).");
        Bench b = based(4000).paged();
        b.setWord(Bench.directoryEntry(63), Bench.entry(FAR_TABLE, 7));
        b.setWord(64 * FAR_TABLE + 2 * 15, Bench.entry(FAR_FRAME, 7));
        b.mapPage(0, 29, 7);
        b.x.pages(1, true);
        due.same("a write at 4095", b.x.write(2, 95, 0x0506), 0);
        due.same("its lower byte is in page 63", b.x.peek(64 * FAR_FRAME + 63), 6);
        due.same("its higher byte is in page 0", b.x.peek(64 * 29), 5);
        due.same("a write at 4096 + 10", b.x.write(2, 106, 0x0708), 0);
        due.same("it is in page 0", b.word(64 * 29 + 10), 0x0708);
        b.setPage(0, 6);
        due.same("a read at 4095 without page 0", b.x.read(2, 95), Bench.fault(14, 0));
        due.same("the fault address of the higher byte", b.x.register(10), 0);
        due.same("a read at 8192 + 5", b.x.read(2, 8192 + 5 - 4000), Bench.fault(14, 0));
        due.same("the fault address", b.x.register(10), 5);
    }

    private static void linearTables(Due due) {
        due.sentence("LINEAR addresses are 0 .. 4095 (taken mod 4096).");
        Bench b = new Bench();
        b.x.poke(0, Bench.DATA);
        b.x.poke(1, 128 + 3);
        b.x.tables(4092 - 8, 2, Bench.VECTORS);
        due.same("a descriptor from 4092 on", b.x.load(2, 4), 0);
        due.same("its lower half is beyond memory, its other one at 0", b.held(2), "65535 65535 4 3");
        Bench gates = new Bench();
        gates.x.fill(0, Bench.descriptor(900, 4, Bench.TRAP, 3));
        gates.x.tables(Bench.TABLE, Bench.COUNT, 4096 - 120);
        due.same("a gate round the end", gates.x.trap(15), 0);
        due.same("IP", gates.x.register(4), 900);
    }

    private static void linearStates(Due due) {
        due.sentence("LINEAR addresses are 0 .. 4095 (taken mod 4096).");
        for (int base : new int[] {4094, 8190}) {
            Bench b = new Bench();
            b.put(FREE, Bench.descriptor(base, 0, Bench.TASK, 0));
            b.taskState(-2, 50, 0, 700, Bench.code(3), Bench.data(3), 0, 3, 0);
            b.setWord(0, 900);
            b.setWord(2, 8);
            due.same("a call to a task at " + base, b.x.far(4 * FREE, 0, true), 0);
            due.same("registers", b.state(), Bench.code(3) + " " + Bench.data(3) + " 0 700 50 2 3");
            due.same("a trap to ring 0", b.x.trap(3), 0);
            due.same("the SP of ring 0 was at 0", b.x.register(3), 900 - 10);
        }
    }

    private static void pagesOff(Due due) {
        due.sentence("PAGES off: the linear address is the address in memory.");
        Bench b = new Bench().paged();
        b.mapPage(20, 30, 7);
        b.x.pages(1, false);
        due.same("a write in page 20", b.x.write(2, 64 * 20, 0x1234), 0);
        due.same("it is at that address", b.word(64 * 20), 0x1234);
        due.same("and not in frame 30", b.word(64 * 30), 0);
        due.same("the table entry is not seen", b.word(Bench.tableEntry(20)), Bench.entry(30, 7));
        due.same("nor the directory entry", b.word(Bench.directoryEntry(20)), Bench.entry(3, 7));
    }

    private static void pagesOn(Due due) {
        due.sentence("Pages on: the PAGE is address / 64; its DIRECTORY ENTRY is the word at 64 * DIRECTORY"
                + " + 2 * (page / 16) in memory, its TABLE ENTRY the word at 64 * (frame of the directory entry)"
                + " + 2 * (page % 16); the address in memory is 64 * (frame of the table entry) + address % 64.");
        int[] tables = {2, 3, 28, 29};
        for (int page : new int[] {0, 1, 15, 16, 31, 32, 47, 48, 62, 63}) {
            Bench b = new Bench().paged();
            for (int i = 0; i < 4; i++) {
                b.setWord(64 + 2 * i, Bench.entry(tables[i], 7));
            }
            b.setWord(64 * tables[page / 16] + 2 * (page % 16), Bench.entry(30, 7));
            b.setWord(64 * 30, 0x1111);
            b.setWord(64 * 30 + 62, 0x2222);
            b.x.pages(1, true);
            due.same("a read at the start of page " + page, b.x.read(2, 64 * page), 0);
            due.same("the first word of the frame", b.x.register(11), 0x1111);
            due.same("a read at the end of page " + page, b.x.read(2, 64 * page + 62), 0);
            due.same("the last word of the frame", b.x.register(11), 0x2222);
        }
    }

    private static void directories(Due due) {
        due.sentence("Pages on: the PAGE is address / 64; its DIRECTORY ENTRY is the word at 64 * DIRECTORY"
                + " + 2 * (page / 16) in memory");
        for (int directory : new int[] {0, 31}) {
            Bench b = new Bench().paged();
            b.setWord(64 * directory + 6, Bench.entry(FAR_TABLE, 7));
            b.setWord(64 * FAR_TABLE + 2 * 15, Bench.entry(FAR_FRAME, 7));
            b.setWord(64 * FAR_FRAME + 2, 0x3333);
            b.x.pages(directory, true);
            due.same("a read through directory " + directory, b.x.read(2, 64 * 63 + 2), 0);
            due.same("the word", b.x.register(11), 0x3333);
        }
    }

    private static void entryBits(Due due) {
        due.sentence("An ENTRY: bit 0 PRESENT, 1 WRITABLE, 2 OPEN, 5 SEEN, 6 CHANGED, bits 8 .. 12 its frame.");
        int others = 0xE098;
        Bench b = new Bench().paged();
        b.setWord(FAR_DIRECTORY_ENTRY, Bench.entry(FAR_TABLE, 7) + others);
        b.setWord(FAR_TABLE_ENTRY, Bench.entry(31, 7) + others);
        b.toRing(3);
        b.x.load(2, Bench.data(3));
        b.x.pages(1, true);
        due.same("a write with all other bits set", b.x.write(2, 64 * FAR_PAGE + 4, 0x4444), 0);
        due.same("it is in frame 31", b.word(64 * 31 + 4), 0x4444);
        due.same("the other bits of the directory entry stay", b.word(FAR_DIRECTORY_ENTRY),
                Bench.entry(FAR_TABLE, 7 + 32) + others);
        due.same("those of the table entry stay", b.word(FAR_TABLE_ENTRY), Bench.entry(31, 7 + 96) + others);
        b.setWord(FAR_TABLE_ENTRY, 0xFFFE);
        due.same("all bits but PRESENT", b.x.read(2, 64 * FAR_PAGE), Bench.fault(14, 4));
        due.same("the entry stays", b.word(FAR_TABLE_ENTRY), 0xFFFE);
    }

    private static void beyondMemory(Due due) {
        due.sentence("Addresses in memory from 2048 on (pages off): what is read there is 255,"
                + " what is written is lost.");
        Bench b = based(0);
        b.x.poke(2047, 0x12);
        b.x.read(2, 2046);
        due.same("the last word", b.x.register(11), 0x1200);
        b.x.read(2, 2047);
        due.same("half a word", b.x.register(11), 0xFF12);
        b.x.read(2, 2048);
        due.same("the first word beyond memory", b.x.register(11), 0xFFFF);
        b.x.read(2, 4094);
        due.same("the last word beyond memory", b.x.register(11), 0xFFFF);
        due.same("a write at 2047", b.x.write(2, 2047, 0x3456), 0);
        due.same("its lower byte", b.x.peek(2047), 0x56);
        due.same("a write at 2048", b.x.write(2, 2048, 0x3456), 0);
        due.same("it is not at 0", b.word(0), 0);
        b.x.read(2, 2048);
        due.same("it is lost", b.x.register(11), 0xFFFF);
        due.same("a write at 4094", b.x.write(2, 4094, 0x3456), 0);
        due.same("it is not at 2046", b.word(2046), 0x5600);
    }

    private static void beyondMemoryTables(Due due) {
        due.sentence("Addresses in memory from 2048 on (pages off): what is read there is 255,"
                + " what is written is lost.");
        Bench table = new Bench();
        table.x.tables(2040, 2, Bench.VECTORS);
        due.same("a descriptor beyond memory has kind 15", table.x.load(2, 4), Bench.general(4));
        due.same("so has the code of every gate", table.x.register(12), 1);
        Bench gates = new Bench();
        gates.x.tables(Bench.TABLE, Bench.COUNT, 2048);
        due.same("a gate beyond memory has kind 15", gates.x.trap(0), Bench.general(2));
        Bench stack = new Bench().toStack(Bench.data(3), 3000);
        due.same("a push beyond memory", stack.x.push(7), 0);
        due.same("a pop beyond memory", stack.x.pop(), 0);
        due.same("the word is lost", stack.x.register(11), 65535);
        stack.x.push(Bench.code(3));
        stack.x.push(9);
        due.same("a return beyond memory", stack.x.back(), Bench.general(65532));
    }

    private static void bySystem(Due due) {
        due.sentence("A byte is ACCESSED, to read or write, by the RING, or by the SYSTEM (as ring 0).");
        Bench b = new Bench().paged();
        b.toRing(3);
        b.setPage(4, 1);
        b.setPage(5, 1);
        b.x.pages(1, true);
        due.same("the system reads a page that is not open", b.x.load(2, Bench.data(3)), 0);
        due.same("ring 3 does not", b.x.read(2, 64 * 4), Bench.fault(14, 5));
        Bench gone = new Bench().paged();
        gone.toRing(3);
        gone.setPage(5, 6);
        gone.x.pages(1, true);
        due.same("the system's code is without 4", gone.x.load(2, Bench.data(3)), Bench.fault(14, 0));
    }

    /** A read or write of ring 0 .. 3 in a page whose two entries have these bits. */
    private static void pageFault(Due due, int ring, boolean writing, int directory, int table) {
        Bench b = new Bench().paged();
        b.toRing(ring);
        b.x.load(2, Bench.data(ring));
        b.setWord(FAR_DIRECTORY_ENTRY, Bench.entry(FAR_TABLE, directory));
        b.setWord(FAR_TABLE_ENTRY, Bench.entry(FAR_FRAME, table));
        b.setWord(64 * FAR_FRAME + 20, 0x7777);
        b.x.pages(1, true);
        int offset = 64 * FAR_PAGE + 20;
        int got = writing ? b.x.write(2, offset, 0x6666) : b.x.read(2, offset);
        int needed = writing ? 6 : 4;
        boolean missing = directory % 2 == 0 || table % 2 == 0;
        boolean refused = ring == 3 && (directory & table & needed) != needed;
        int code = (writing ? 2 : 0) + (ring == 3 ? 4 : 0) + (missing ? 0 : 1);
        boolean raised = missing || refused;
        String what = (writing ? "a write" : "a read") + " of ring " + ring + ", entries " + directory + ", " + table;
        due.same(what, got, raised ? Bench.fault(14, code) : 0);
        due.same(what + ": the fault address", b.x.register(10), raised ? offset : 0);
        due.same(what + ": the word read", b.x.register(11), raised || writing ? 0 : 0x7777);
        due.same(what + ": the word", b.word(64 * FAR_FRAME + 20), raised || !writing ? 0x7777 : 0x6666);
        due.same(what + ": the directory entry", b.word(FAR_DIRECTORY_ENTRY),
                Bench.entry(FAR_TABLE, directory + (raised ? 0 : 32)));
        due.same(what + ": the table entry", b.word(FAR_TABLE_ENTRY),
                Bench.entry(FAR_FRAME, table + (raised ? 0 : writing ? 96 : 32)));
    }

    private static void pageFaults(Due due) {
        due.sentence("With pages on, PAGE (14) is raised, with the code below, when the directory entry is not present,"
                + " or the table entry is not, or (code 1 more) ring 3 accesses and one of the two is not open,"
                + " or ring 3 writes and one of the two is not writable.");
        for (int ring = 0; ring < 4; ring++) {
            for (int bits = 0; bits < 64; bits++) {
                pageFault(due, ring, false, bits % 8, bits / 8);
                pageFault(due, ring, true, bits % 8, bits / 8);
            }
        }
    }

    private static void faultAddresses(Due due) {
        due.sentence("The code is 2 for writing, plus 4 for ring 3; and the address is noted as the FAULT ADDRESS.");
        Bench b = based(4096).paged();
        b.x.pages(1, true);
        due.same("a write", b.x.write(2, 64 * 63 + 63, 1), Bench.fault(14, 2));
        due.same("the last address", b.x.register(10), 4095);
        due.same("the code pushed", b.word(b.x.register(3)), 2);
        due.same("another fault", b.x.read(2, 65535), Bench.general(0));
        due.same("leaves the address alone", b.x.register(10), 4095);
        due.same("so does an instruction without one", b.x.read(2, 700), 0);
        due.same("the address", b.x.register(10), 4095);
        due.same("another read", b.x.read(2, 64 * 32), Bench.fault(14, 0));
        due.same("notes its own", b.x.register(10), 64 * 32);
    }

    private static void seenAndChanged(Due due) {
        due.sentence("Otherwise both entries become SEEN, the table entry CHANGED when it is written (in memory).");
        Bench b = new Bench().paged();
        b.x.pages(1, true);
        b.x.read(2, 64 * 20 + 62);
        due.same("the directory entry when read", b.word(Bench.directoryEntry(20)), Bench.entry(3, 7 + 32));
        due.same("the table entry when read", b.bitsOfPage(20), 7 + 32);
        due.same("the next page's", b.bitsOfPage(21), 7);
        b.x.write(2, 64 * 20 + 62, 1);
        due.same("the directory entry when written", b.word(Bench.directoryEntry(20)), Bench.entry(3, 7 + 32));
        due.same("the table entry when written", b.bitsOfPage(20), 7 + 96);
        due.same("the next page's", b.bitsOfPage(21), 7);
        b.x.read(2, 64 * 20 + 62);
        due.same("it stays changed", b.bitsOfPage(20), 7 + 96);
        due.same("a word on two pages", b.x.read(2, 64 * 22 + 63), 0);
        due.same("the first page", b.bitsOfPage(22), 7 + 32);
        due.same("the second page", b.bitsOfPage(23), 7 + 32);
        due.yes("poke", b.x.poke(64 * 24, 1));
        due.same("peek", b.x.peek(64 * 24), 1);
        due.same("they go by no page", b.bitsOfPage(24), 7);
    }

    private static void ownEntry(Due due) {
        due.sentence("A word is accessed as its lower byte, then the higher one (the next address).");
        Bench b = new Bench().paged();
        b.x.pages(1, true);
        int place = Bench.tableEntry(2);
        due.same("a read of the entry of its own page", b.x.read(2, place), 0);
        due.same("it was seen ahead of that", b.x.register(11), Bench.entry(2, 7 + 32));
        due.same("a write of the entry of its own page", b.x.write(2, place, Bench.entry(2, 7)), 0);
        due.same("the higher byte's access changed it again", b.word(place), Bench.entry(2, 7 + 96));
        due.same("a write that takes the page away", b.x.write(2, place, Bench.entry(9, 6)), Bench.fault(14, 2));
        due.same("the higher byte was not there", b.x.register(10), place + 1);
        due.same("the entry", b.word(place), Bench.entry(2, 6));
    }

    private static void bothEntriesInOne(Due due) {
        due.sentence("Otherwise both entries become SEEN, the table entry CHANGED when it is written (in memory).");
        Bench b = new Bench().paged();
        b.setWord(Bench.directoryEntry(34), Bench.entry(1, 7));
        b.x.pages(1, true);
        due.same("a read through an entry that is both", b.x.read(2, 64 * 34 + 4), 0);
        due.same("it reads itself, and was seen", b.x.register(11), Bench.entry(1, 7 + 32));
        due.same("a write through it", b.x.write(2, 64 * 34 + 20, 0x5555), 0);
        due.same("it is changed", b.word(Bench.directoryEntry(34)), Bench.entry(1, 7 + 96));
        due.same("the word is in the directory's frame", b.word(64 + 20), 0x5555);
    }

    private static void wordsAcrossPages(Due due) {
        due.sentence("A word is accessed as its lower byte, then the higher one (the next address).");
        for (int writing = 0; writing < 2; writing++) {
            for (int missing = 0; missing < 2; missing++) {
                Bench b = new Bench().paged();
                b.setPage(20 + missing, 6);
                b.x.pages(1, true);
                int offset = 64 * 21 - 1;
                int got = writing == 1 ? b.x.write(2, offset, 0x0908) : b.x.read(2, offset);
                due.same("a word half in a page that is not there", got, Bench.fault(14, 2 * writing));
                due.same("the fault address", b.x.register(10), offset + missing);
                due.same("the lower byte's entry", b.bitsOfPage(20), missing == 0 ? 6 : writing == 1 ? 103 : 39);
                due.same("the higher byte's entry", b.bitsOfPage(21), missing == 0 ? 7 : 6);
                due.same("the lower byte", b.x.peek(offset), missing == 1 && writing == 1 ? 8 : 0);
                due.same("the higher byte", b.x.peek(offset + 1), 0);
            }
        }
    }

    private static void newObject(Due due) {
        due.sentence("All bytes are 0, pages off, TABLE, COUNT, VECTORS, DIRECTORY 0.");
        RingMachine x = new RingMachine();
        for (int address = 0; address < 2048; address++) {
            x = address % 500 == 0 ? new RingMachine() : x;
            due.same("byte " + address, x.peek(address), 0);
        }
        due.same("DIRECTORY", x.register(9), 0);
        due.same("pages are off", x.write(2, 64, 5), 0);
        due.same("the word written", x.peek(64), 5);
        due.same("COUNT is 0", new RingMachine().load(2, 4), Bench.general(4));
        RingMachine table = new RingMachine();
        table.fill(0, Bench.descriptor(900, 8, Bench.TRAP, 0));
        table.fill(16, Bench.descriptor(0, 4095, Bench.CODE, 0));
        due.same("VECTORS is 0, but COUNT too", table.trap(0), Bench.general(8));
        RingMachine paged = new RingMachine();
        paged.fill(0, 0x0107L);
        paged.fill(64, 0x0507L);
        paged.poke(5 * 64 + 9, 6);
        paged.pages(paged.register(9), true);
        due.same("a read through directory 0", paged.read(2, 9), 0);
        due.same("the byte", paged.register(11), 6);
    }

    private static void poke(Due due) {
        due.sentence("Byte at an address in memory becomes v mod 256. False when there is no such address.");
        int[][] values = {{0, 0}, {255, 255}, {256, 0}, {257, 1}, {-1, 255}, {-255, 1}, {-256, 0},
            {Integer.MAX_VALUE, 255}, {Integer.MIN_VALUE, 0}};
        RingMachine x = new RingMachine();
        for (int[] v : values) {
            x.poke(9, 77);
            due.yes("poke of " + v[0], x.poke(9, v[0]));
            due.same("the byte", x.peek(9), v[1]);
        }
        for (int address : new int[] {-1, -2048, 2048, 2049, 4095, 65536, Integer.MIN_VALUE, Integer.MAX_VALUE}) {
            due.no("poke at " + address, x.poke(address, 99));
        }
        due.same("the first byte", x.peek(0), 0);
        due.same("the second byte", x.peek(1), 0);
        due.same("the last byte", x.peek(2047), 0);
    }

    private static void peek(Due due) {
        due.sentence("The byte at an address in memory; -1 when there is none.");
        RingMachine x = new RingMachine();
        x.poke(0, 128);
        x.poke(2047, 255);
        due.same("the first byte", x.peek(0), 128);
        due.same("the last byte", x.peek(2047), 255);
        for (int address : new int[] {-1, -2048, 2048, 2049, 4095, 65536, Integer.MIN_VALUE, Integer.MAX_VALUE}) {
            due.same("peek at " + address, x.peek(address), -1);
        }
    }

    private static void fill(Due due) {
        due.sentence("Eight bytes in memory from an address (a multiple of 8) on, the lowest byte of the number first."
                + " False when there are not these.");
        RingMachine x = new RingMachine();
        for (int address = -17; address < 2066; address++) {
            x = address % 400 == 0 ? new RingMachine() : x;
            boolean there = address >= 0 && address < 2048 && address % 8 == 0;
            due.same("fill at " + address, x.fill(address, 0x0102030405060708L) ? 1 : 0, there ? 1 : 0);
        }
        x = new RingMachine();
        for (int address : new int[] {1, 7, -8, 2041, 2044, 2047, 2048, 65536, Integer.MIN_VALUE, Integer.MAX_VALUE}) {
            due.no("fill at " + address, x.fill(address, -1L));
        }
        for (int address : new int[] {0, 1, 7, 8, 14, 2040, 2041, 2044, 2047}) {
            due.same("byte " + address + " after wrong fills", x.peek(address), 0);
        }
        x.fill(2040, 0xF1E2D3C4B5A69788L);
        int[] want = {0x88, 0x97, 0xA6, 0xB5, 0xC4, 0xD3, 0xE2, 0xF1};
        for (int i = 0; i < 8; i++) {
            due.same("byte " + i, x.peek(2040 + i), want[i]);
        }
        due.same("the byte ahead", x.peek(2039), 0);
    }

    private static void pages(Due due) {
        due.sentence("DIRECTORY (mod 32), and pages on or off. False when the machine is down.");
        RingMachine x = new RingMachine();
        int[][] cases = {{0, 0}, {31, 31}, {32, 0}, {33, 1}, {-1, 31}, {-32, 0}, {Integer.MAX_VALUE, 31},
            {Integer.MIN_VALUE, 0}};
        for (int[] c : cases) {
            due.yes("pages " + c[0], x.pages(c[0], true));
            due.same("DIRECTORY", x.register(9), c[1]);
            due.yes("pages " + c[0] + " off", x.pages(c[0], false));
            due.same("DIRECTORY", x.register(9), c[1]);
        }
        due.same("a read with pages off", x.read(2, 0), 0);
        x.pages(3, true);
        due.same("a read with pages on", x.read(2, 0), Bench.fault(14, 0));
        due.same("the machine is down, for the gates are in no page", x.register(12), 1);
        due.no("pages when down", x.pages(4, false));
        due.same("DIRECTORY when down", x.register(9), 3);
    }
}
