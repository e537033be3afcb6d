/** The sentences on selectors, descriptors, gates and looking up, and promise 5, each at its edges. */
public final class TableEdgesTest {
    private static final int FREE = Bench.FREE;
    private static final int ACROSS = 12;

    public static void main(String[] args) {
        Due due = new Due();
        nullSelectors(due);
        codes(due);
        counts(due);
        bases(due);
        kinds(due);
        levels(due);
        present(due);
        gateWords(due);
        otherBytes(due);
        countAheadOfReading(due);
        ascending(due);
        ascendingAddress(due);
        ascendingGates(due);
        bySystem(due);
        gates(due);
        gatesBySystem(due);
        tablesMod(due);
        tablesRefused(due);
        tablesWhenDown(due);
        due.finish();
    }

    private static void nullSelectors(Due due) {
        due.sentence("A SELECTOR is 16 bits: bits 0, 1 its RPL, the others its INDEX; it is NULL when its index is 0.");
        for (int selector = 0; selector < 4; selector++) {
            Bench b = new Bench();
            b.put(0, Bench.descriptor(5, 50, Bench.DATA, 3));
            due.same("load of DS with " + selector, b.x.load(2, selector), 0);
            due.same("DS is NULL", b.held(2), "0 0 0 0");
            due.same("a read in it", b.x.read(2, 0), Bench.general(0));
        }
        for (int rpl = 0; rpl < 4; rpl++) {
            Bench b = new Bench();
            b.put(1, Bench.descriptor(5, 50, Bench.DATA, 3));
            due.same("load of DS with " + (4 + rpl), b.x.load(2, 4 + rpl), 0);
            due.same("DS is index 1", b.held(2), "5 50 4 3");
            due.same("its selector", b.x.register(2), 4 + rpl);
        }
        due.same("the greatest index", new Bench().x.load(2, 65535), Bench.general(65532));
        due.same("an index with the highest bit", new Bench().x.load(2, 32768 + 8), Bench.general(32776));
    }

    private static void codes(Due due) {
        due.sentence("Its CODE is the selector with RPL 0.");
        for (int rpl = 0; rpl < 4; rpl++) {
            Bench b = new Bench();
            due.same("an index beyond COUNT with RPL " + rpl, b.x.load(2, Bench.select(30, rpl)), Bench.general(120));
            due.same("the code pushed", b.word(b.x.register(3)), 120);
            b.put(FREE, Bench.absent(Bench.descriptor(0, 9, Bench.DATA, 3)));
            due.same("a segment that isn't present with RPL " + rpl, b.x.load(2, Bench.select(FREE, rpl)),
                    Bench.fault(11, 4 * FREE));
        }
    }

    private static void counts(Due due) {
        due.sentence("TO LOOK UP a selector: GENERAL (13) with its code if its index is COUNT or more");
        int table = 1536;
        for (int count : new int[] {0, 1, 2, 3, 31, 32}) {
            for (int index = 1; index < 34; index++) {
                Bench b = new Bench();
                b.x.fill(table + 8 * index, Bench.descriptor(1000 + index, 100, Bench.DATA, 3));
                b.x.tables(table, count, Bench.VECTORS);
                String what = "index " + index + " with COUNT " + count;
                due.same(what, b.x.load(2, Bench.select(index, 3)), index < count ? 0 : Bench.general(4 * index));
                due.same(what + ": base", b.x.segment(2, 0), index < count ? 1000 + index : 0);
            }
        }
    }

    private static void bases(Due due) {
        due.sentence("bytes 0, 1 BASE, 2, 3 LIMIT (words)");
        int[][] cases = {{0, 0}, {1, 65535}, {65535, 1}, {0x1234, 0xFEDC}, {0xFF00, 0x00FF}};
        for (int[] c : cases) {
            Bench b = new Bench();
            b.put(FREE, Bench.descriptor(c[0], c[1], Bench.DATA, 0));
            due.same("a load", b.x.load(2, 4 * FREE), 0);
            due.same("base, limit, kind and level", b.held(2), c[0] + " " + c[1] + " 4 0");
        }
    }

    private static void kinds(Due due) {
        due.sentence("byte 4 the KIND (its lowest 4 bits): 1 CODE, 2 CONFORMING code, 3 READ-ONLY data, 4 data, 5 TASK,"
                + " 6 BUSY task, 7 CALL gate; byte 5");
        for (int kind = 0; kind < 256; kind++) {
            Bench b = new Bench();
            b.put(FREE, Bench.descriptor(7, 70, kind, 0));
            int lowest = kind % 16;
            boolean taken = lowest >= 1 && lowest <= 4;
            due.same("a load of kind byte " + kind, b.x.load(2, 4 * FREE), taken ? 0 : Bench.general(4 * FREE));
            due.same("the kind", b.x.segment(2, 2), taken ? lowest : Bench.DATA);
        }
    }

    private static void levels(Due due) {
        due.sentence("byte 5: bits 0, 1 the LEVEL, bit 7 PRESENT");
        for (int bits = 128; bits < 256; bits++) {
            Bench b = new Bench();
            b.put(FREE, Bench.descriptor(7, 70, Bench.DATA, 0));
            b.x.poke(Bench.TABLE + 8 * FREE + 5, bits);
            int level = bits % 4;
            due.same("a load with byte 5 being " + bits, b.x.load(2, Bench.select(FREE, level)), 0);
            due.same("the level", b.x.segment(2, 3), level);
        }
    }

    private static void present(Due due) {
        due.sentence("byte 5: bits 0, 1 the LEVEL, bit 7 PRESENT");
        for (int bits = 0; bits < 128; bits++) {
            Bench b = new Bench();
            b.put(FREE, Bench.descriptor(7, 70, Bench.DATA, 0) | 0xFFFFL << 48);
            b.x.poke(Bench.TABLE + 8 * FREE + 5, bits);
            due.same("a load with byte 5 being " + bits, b.x.load(2, 4 * FREE), Bench.fault(11, 4 * FREE));
        }
    }

    private static void gateWords(Due due) {
        due.sentence("of a gate, BASE is an offset, LIMIT a selector, byte 6 (its lowest 3 bits) a number of words.");
        for (int bits : new int[] {0, 1, 6, 7, 8, 9, 15, 16, 128, 248, 255}) {
            Bench b = new Bench().toRing(3);
            b.put(FREE, Bench.callGate(Bench.code(0), 0x765, 3, bits));
            int words = bits % 8;
            due.same("a call by a gate whose byte 6 is " + bits, b.x.far(Bench.select(FREE, 3), 9, true), 0);
            due.same("SP", b.x.register(3), Bench.innerSp(0) - 8 - 2 * words);
            due.same("IP", b.x.register(4), 0x765);
            due.same("CS", b.x.register(0), Bench.code(0));
        }
    }

    private static void otherBytes(Due due) {
        due.sentence("DESCRIPTORS stand, 8 bytes each, from the linear address TABLE on, COUNT of them");
        Bench b = new Bench();
        b.put(FREE, Bench.descriptor(7, 70, Bench.DATA, 2) | 0xFFFFL << 48);
        due.same("a load with bytes 6 and 7 set", b.x.load(2, 4 * FREE), 0);
        due.same("DS", b.held(2), "7 70 4 2");
        b.put(FREE - 1, -1L);
        b.put(FREE + 1, -1L);
        due.same("its neighbours tell nothing", b.x.load(2, 4 * FREE), 0);
        due.same("DS", b.held(2), "7 70 4 2");
        Bench unaligned = new Bench();
        unaligned.x.tables(1537 - 8, 2, Bench.VECTORS);
        for (int i = 0; i < 8; i++) {
            unaligned.x.poke(1537 + i, (int) (Bench.descriptor(0x0102, 0x0304, Bench.DATA, 1) >>> 8 * i));
        }
        due.same("a table at an odd address", unaligned.x.load(2, 4), 0);
        due.same("DS", unaligned.held(2), (0x0102) + " " + (0x0304) + " 4 1");
    }

    private static void countAheadOfReading(Due due) {
        due.sentence("GENERAL (13) with its code if its index is COUNT or more;"
                + " otherwise its eight bytes are read by the system, ascending.");
        Bench missing = new Bench().paged();
        missing.x.tables(Bench.TABLE, 8, Bench.VECTORS);
        missing.setPage(5, 6);
        missing.x.pages(1, true);
        due.same("an index of COUNT in a page that is not there", missing.x.load(2, 4 * 8), Bench.general(32));
        due.same("the last index", missing.x.load(2, Bench.select(7, 3)), 0);
        Bench there = new Bench().paged();
        there.x.tables(Bench.TABLE, 8, Bench.VECTORS);
        there.x.pages(1, true);
        due.same("an index of COUNT in a page that is there", there.x.load(2, 4 * 8), Bench.general(32));
        due.same("it is not read", there.bitsOfPage(5), 7);
        due.same("the page of the code was read for the fault", there.bitsOfPage(4), 39);
    }

    private static void putBytes(Bench b, int place, long bytes) {
        for (int i = 0; i < 8; i++) {
            b.x.poke(place + i, (int) (bytes >>> 8 * i));
        }
    }

    /**
     * A bench with a descriptor and the gate of vector 5 that have so many bytes each at the end of page 20 and of
     * page 22, the others in pages 21 and 23; the pages have these bits. The code of the gates is in page 19.
     */
    private static Bench across(int bytes, int first, int second) {
        Bench b = new Bench().paged();
        int table = 64 * 21 - bytes - 8 * ACROSS;
        putBytes(b, table + 8 * ACROSS, Bench.descriptor(0x0506, 0x0708, Bench.DATA, 0) | 0xFFL << 56);
        putBytes(b, table + 8, Bench.descriptor(0, 4095, Bench.CODE, 0));
        int vectors = 64 * 23 - bytes - 8 * 5;
        for (int v = 0; v < 16; v++) {
            putBytes(b, vectors + 8 * v, Bench.descriptor(800 + v, 4, Bench.TRAP, 3));
        }
        for (int page = 20; page < 24; page++) {
            b.setPage(page, page % 2 == 0 ? first : second);
        }
        b.x.tables(table, Bench.COUNT, vectors);
        b.x.pages(1, true);
        return b;
    }

    private static void ascending(Due due) {
        due.sentence("otherwise its eight bytes are read by the system, ascending.");
        for (int bytes = 1; bytes < 8; bytes++) {
            Bench both = across(bytes, 7, 7);
            due.same("a descriptor across two pages", both.x.load(2, 4 * ACROSS), 0);
            due.same("DS", both.held(2), 0x0506 + " " + 0x0708 + " 4 0");
            due.same("the first page is seen", both.bitsOfPage(20), 39);
            due.same("the second page is seen", both.bitsOfPage(21), 39);
            Bench second = across(bytes, 7, 6);
            due.same("the second page is not there", second.x.load(2, 4 * ACROSS), Bench.fault(14, 0));
            due.same("the first page was seen", second.bitsOfPage(20), 39);
            Bench first = across(bytes, 6, 7);
            due.same("the first page is not there", first.x.load(2, 4 * ACROSS), Bench.fault(14, 0));
            due.same("the second page was not seen", first.bitsOfPage(21), 7);
        }
    }

    private static void ascendingAddress(Due due) {
        due.sentence("otherwise its eight bytes are read by the system, ascending.");
        for (int bytes = 1; bytes < 8; bytes++) {
            for (int missing = 0; missing < 2; missing++) {
                Bench b = across(bytes, 7, 7);
                b.setPage(20 + missing, 6);
                due.same("a descriptor half in a page that is not there", b.x.load(2, 4 * ACROSS), Bench.fault(14, 0));
                due.same("the fault address", b.x.register(10), missing == 1 ? 64 * 21 : 64 * 21 - bytes);
                due.same("the fault is delivered", b.x.register(4), 814);
            }
        }
    }

    private static void ascendingGates(Due due) {
        due.sentence("GATES for vectors 0 .. 15 stand likewise from the linear address VECTORS on");
        for (int bytes = 1; bytes < 8; bytes++) {
            Bench both = across(bytes, 7, 7);
            due.same("a gate across two pages", both.x.trap(5), 0);
            due.same("IP", both.x.register(4), 805);
            due.same("the first page is seen", both.bitsOfPage(22), 39);
            due.same("the second page is seen", both.bitsOfPage(23), 39);
            Bench first = across(bytes, 7, 7);
            first.setPage(22, 6);
            due.same("a gate whose first bytes are not there", first.x.trap(5), Bench.fault(14, 0));
            due.same("the fault address", first.x.register(10), 64 * 23 - bytes);
            due.same("vector 14 is in page 24", first.x.register(4), 814);
            Bench second = across(bytes, 7, 7);
            second.setPage(23, 6);
            due.same("a gate whose last bytes are not there", second.x.trap(5), Bench.fault(14, 0));
            due.same("the fault address", second.x.register(10), 64 * 23);
            due.same("vector 14 is in page 24", second.x.register(4), 814);
            due.same("the first page was seen", second.bitsOfPage(22), 39);
        }
    }

    private static void bySystem(Due due) {
        due.sentence("otherwise its eight bytes are read by the system, ascending.");
        for (int ring = 1; ring < 4; ring++) {
            Bench b = new Bench().paged().toRing(ring);
            b.setPage(4, 1);
            b.setPage(5, 1);
            b.x.pages(1, true);
            due.same("a look-up in ring " + ring + " in a page that is not open", b.x.load(2, Bench.data(3)), 0);
            due.same("it is only read", b.bitsOfPage(5), 33);
        }
    }

    private static void gates(Due due) {
        due.sentence("GATES for vectors 0 .. 15 stand likewise from the linear address VECTORS on:"
                + " kind 8 INTERRUPT gate, 9 TRAP gate.");
        for (int vector = 0; vector < 18; vector++) {
            Bench b = new Bench();
            int vectors = 1536;
            for (int v = 0; v < 18; v++) {
                b.x.fill(vectors + 8 * v, Bench.descriptor(300 + v, 4, Bench.TRAP, 3));
            }
            b.x.tables(Bench.TABLE, Bench.COUNT, vectors);
            due.same("a trap by vector " + vector, b.x.trap(vector), vector < 16 ? 0 : Bench.general(4 * vector + 2));
            due.same("IP", b.x.register(4), vector < 16 ? 300 + vector : 313);
        }
        for (int kind = 0; kind < 256; kind++) {
            Bench b = new Bench();
            b.gate(5, Bench.descriptor(900, 4, kind, 3));
            boolean gate = kind % 16 == Bench.INTERRUPT || kind % 16 == Bench.TRAP;
            due.same("a trap through kind byte " + kind, b.x.trap(5), gate ? 0 : Bench.general(22));
        }
    }

    private static void gatesBySystem(Due due) {
        due.sentence("GATES for vectors 0 .. 15 stand likewise from the linear address VECTORS on");
        Bench b = new Bench().paged().toRing(3);
        b.setPage(8, 1);
        b.x.pages(1, true);
        due.same("ring 3 traps through a page that is not open", b.x.trap(3), 0);
        due.same("it is only read", b.bitsOfPage(8), 33);
        Bench none = new Bench().paged().toRing(3);
        none.setPage(8, 6);
        none.x.pages(1, true);
        due.same("ring 3 traps through a page that is not there", none.x.trap(3), Bench.fault(14, 0));
        due.same("the fault address is the gate's first byte", none.x.register(10), Bench.VECTORS + 24);
        due.same("vector 14 stands in the other page", none.x.register(4), 814);
    }

    private static void tablesMod(Due due) {
        due.sentence("TABLE (mod 4096), COUNT (0 .. 32) and VECTORS (mod 4096) are these.");
        int[] turns = {0, 4096, -4096, 65536, -65536, Integer.MIN_VALUE, Integer.MAX_VALUE - 4095};
        for (int turn : turns) {
            Bench b = new Bench();
            due.yes("tables a turn of " + turn + " away",
                    b.x.tables(Bench.TABLE + turn, Bench.COUNT, Bench.VECTORS + turn));
            due.same("a trap", b.x.trap(7), 0);
            due.same("IP", b.x.register(4), 807);
        }
        Bench b = new Bench();
        b.x.fill(2040, Bench.descriptor(3, 30, Bench.DATA, 0));
        due.yes("TABLE of 4095 + 1 - 2056", b.x.tables(-2064, 2, Bench.VECTORS));
        due.same("a load", b.x.load(2, 4), 0);
        due.same("DS", b.held(2), "3 30 4 0");
    }

    private static void tablesRefused(Due due) {
        due.sentence("False, and nothing changes, when count is not so, or the machine is down.");
        for (int count : new int[] {-1, 33, 64, 256, -32, 65536, Integer.MIN_VALUE, Integer.MAX_VALUE}) {
            Bench b = new Bench();
            due.no("tables with count " + count, b.x.tables(0, count, 0));
            due.same("TABLE and COUNT are as before", b.x.load(2, Bench.select(8, 3)), 0);
            due.same("VECTORS are as before", b.x.trap(4), 0);
            due.same("IP", b.x.register(4), 804);
            due.same("COUNT is as before", b.x.load(2, 4 * Bench.COUNT), Bench.general(4 * Bench.COUNT));
        }
        due.yes("tables with count 0", new RingMachine().tables(0, 0, 0));
        due.yes("tables with count 32", new RingMachine().tables(0, 32, 0));
    }

    private static void tablesWhenDown(Due due) {
        due.sentence("False, and nothing changes, when count is not so, or the machine is down.");
        for (int count : new int[] {-1, 0, 1, 32, 33}) {
            due.no("tables with count " + count + " when down", Bench.down().tables(0, count, 0));
        }
    }
}
