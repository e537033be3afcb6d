/**
 * A machine that is ready for use: flat code and data for every ring, stacks for the inner rings in the task state,
 * and a gate for every vector that leads to ring 0 at 800 + vector.
 */
final class Bench {
    static final int TABLE = 256;
    static final int VECTORS = 512;
    static final int STATE = 1024;

    static final int CODE = 1;
    static final int CONFORMING = 2;
    static final int READ_ONLY = 3;
    static final int DATA = 4;
    static final int TASK = 5;
    static final int BUSY = 6;
    static final int GATE = 7;
    static final int INTERRUPT = 8;
    static final int TRAP = 9;

    /** The first index of the table that no descriptor of the bench stands at. */
    static final int FREE = 9;
    static final int COUNT = 20;

    final RingMachine x = new RingMachine();

    Bench() {
        x.tables(TABLE, COUNT, VECTORS);
        for (int ring = 0; ring < 4; ring++) {
            put(1 + 2 * ring, descriptor(0, 4095, CODE, ring));
            put(2 + 2 * ring, descriptor(0, 4095, DATA, ring));
        }
        for (int v = 0; v < 16; v++) {
            gate(v, descriptor(800 + v, code(0), TRAP, 3));
        }
        for (int ring = 0; ring < 3; ring++) {
            innerStack(STATE, ring, innerSp(ring), data(ring));
        }
    }

    static int innerSp(int ring) {
        return 1000 - 40 * ring;
    }

    /** The selector of the flat code of a ring, with that ring as RPL. */
    static int code(int ring) {
        return select(1 + 2 * ring, ring);
    }

    static int data(int ring) {
        return select(2 + 2 * ring, ring);
    }

    static int select(int index, int rpl) {
        return 4 * index + rpl;
    }

    static long descriptor(int base, int limit, int kind, int level) {
        return base | (long) limit << 16 | (long) kind << 32 | (long) (128 + level) << 40;
    }

    static long absent(long descriptor) {
        return descriptor & ~(1L << 47);
    }

    static long callGate(int selector, int offset, int level, int words) {
        return descriptor(offset, selector, GATE, level) | (long) words << 48;
    }

    /** An entry of a directory or of a table of pages. */
    static int entry(int frame, int bits) {
        return 256 * frame + bits;
    }

    /** Where the directory of a paged bench has the entry of a page. */
    static int directoryEntry(int page) {
        return 64 + 2 * (page / 16);
    }

    /** Where the tables of a paged bench have the entry of a page, 0 .. 31. */
    static int tableEntry(int page) {
        return 128 + 64 * (page / 16) + 2 * (page % 16);
    }

    static int fault(int vector, int code) {
        return 65536 * vector + code;
    }

    static int general(int code) {
        return fault(13, code);
    }

    void put(int index, long descriptor) {
        x.fill(TABLE + 8 * index, descriptor);
    }

    void gate(int vector, long descriptor) {
        x.fill(VECTORS + 8 * vector, descriptor);
    }

    void innerStack(int state, int ring, int sp, int selector) {
        setWord(state + 4 * ring + 2, sp);
        setWord(state + 4 * ring + 4, selector);
    }

    void setWord(int address, int v) {
        x.poke(address, v);
        x.poke(address + 1, v >> 8);
    }

    int word(int address) {
        return x.peek(address) + 256 * x.peek(address + 1);
    }

    void push(int... values) {
        for (int v : values) {
            x.push(v);
        }
    }

    /** Returns outwards, so that the ring is this one, SP 700 and IP 40. */
    Bench toRing(int ring) {
        if (ring == 0) {
            push(code(0), 40);
            x.back();
            return this;
        }
        return toStack(data(ring), 700);
    }

    /** Returns outwards to the ring of a stack, so that SP is this one and IP 40. */
    Bench toStack(int selector, int sp) {
        push(selector, sp, code(selector & 3), 40);
        x.back();
        return this;
    }

    /** Goes on at this IP in ring 0, in code at this index whose limit is the greatest. */
    Bench toIp(int index, int ip) {
        put(index, descriptor(0, 65535, CODE, 0));
        x.far(select(index, 0), ip, false);
        return this;
    }

    /** Ends a trap in ring 0, so that FLAGS are these, and IP 60. */
    Bench toFlags(int flags) {
        push(flags, code(0), 60);
        x.end();
        return this;
    }

    /** The directory is frame 1, and page n is frame n of memory, through the tables in the frames 2 and 3. */
    Bench paged() {
        setWord(directoryEntry(0), entry(2, 7));
        setWord(directoryEntry(16), entry(3, 7));
        for (int page = 0; page < 32; page++) {
            mapPage(page, page, 7);
        }
        return this;
    }

    void mapPage(int page, int frame, int bits) {
        setWord(tableEntry(page), entry(frame, bits));
    }

    /** The page's entry in its table: its frame is the page's own, and it has these bits. */
    void setPage(int page, int bits) {
        mapPage(page, page, bits);
    }

    int bitsOfPage(int page) {
        return x.peek(tableEntry(page));
    }

    /** IP, FLAGS, SP, CS, SS, DS, ring, DIRECTORY, as a task's state has them. */
    void taskState(int base, int... words) {
        for (int i = 0; i < words.length; i++) {
            setWord(base + 14 + 2 * i, words[i]);
        }
    }

    String savedState(int base) {
        StringBuilder text = new StringBuilder();
        for (int i = 0; i < 8; i++) {
            text.append(i == 0 ? "" : " ").append(word(base + 14 + 2 * i));
        }
        return text.toString();
    }

    /** CS, SS, DS, SP, IP, FLAGS and RING. */
    String state() {
        StringBuilder text = new StringBuilder();
        for (int k = 0; k < 7; k++) {
            text.append(k == 0 ? "" : " ").append(x.register(k));
        }
        return text.toString();
    }

    /** Base, limit, kind and level of a segment. */
    String held(int s) {
        StringBuilder text = new StringBuilder();
        for (int what = 0; what < 4; what++) {
            text.append(what == 0 ? "" : " ").append(x.segment(s, what));
        }
        return text.toString();
    }

    /** A new machine that is down. */
    static RingMachine down() {
        RingMachine x = new RingMachine();
        x.read(2, 4095);
        return x;
    }
}
