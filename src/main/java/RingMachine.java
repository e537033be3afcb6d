/** A machine with four rings, segments, pages, gates, faults and tasks; the document's promises 1 to 17. */
public final class RingMachine {
    private static final int WORD = 65535;
    private static final int LINEAR = 4095;
    private static final int MEMORY = 2048;
    private static final int FRAME = 64;

    private static final int CODE = 1;
    private static final int CONFORMING = 2;
    private static final int READ_ONLY = 3;
    private static final int DATA = 4;
    private static final int TASK = 5;
    private static final int BUSY = 6;
    private static final int CALL_GATE = 7;
    private static final int INTERRUPT_GATE = 8;
    private static final int TRAP_GATE = 9;

    private static final int DOUBLE = 8;
    private static final int TASK_FAULT = 10;
    private static final int MISSING = 11;
    private static final int STACK = 12;
    private static final int GENERAL = 13;
    private static final int PAGE = 14;

    private static final int PRESENT = 1;
    private static final int WRITABLE = 2;
    private static final int OPEN = 4;
    private static final int SEEN = 32;
    private static final int CHANGED = 64;

    private static final int ENABLED = 1;
    private static final int NESTED = 2;

    private static final int CS = 0;
    private static final int SS = 1;
    private static final int DS = 2;

    private static final int SYSTEM = 0;
    private static final int OUTERMOST = 3;

    private static final int JUMP = 0;
    private static final int CALL = 1;
    private static final int RETURN = 2;

    private static final int STATE = 14;
    private static final int STATE_WORDS = 8;
    private static final int GATE_WORDS = 7;
    private static final int VECTOR_GATES = 16;
    private static final int MOST_DESCRIPTORS = 32;

    private static final int WAS_DOWN = -1;
    private static final int NO_SEGMENT = -2;

    private final Fault fault;
    private final Registers now;
    /** What the registers go back to when a fault is raised. */
    private final Registers before;
    private final Memory memory;
    /** The descriptor that a far transfer, a delivery or a switch starts from: code, a gate or a task. */
    private final Descriptor entry;
    /** Code or a segment that is about to be taken. */
    private final Descriptor target;
    /** A stack that is about to be taken. */
    private final Descriptor stack;
    private final int[] state;
    private final int[] words;
    private int table;
    private int count;
    private int vectors;
    private boolean down;

    public RingMachine() {
        fault = new Fault();
        now = new Registers();
        before = new Registers();
        memory = new Memory(fault, now);
        entry = new Descriptor();
        target = new Descriptor();
        stack = new Descriptor();
        state = new int[STATE_WORDS];
        words = new int[GATE_WORDS];
    }

    public boolean poke(int address, int v) {
        if (address < 0 || address >= MEMORY) {
            return false;
        }
        memory.put(address, v);
        return true;
    }

    public int peek(int address) {
        if (address < 0 || address >= MEMORY) {
            return -1;
        }
        return memory.at(address);
    }

    public boolean fill(int address, long bytes) {
        if (address < 0 || address >= MEMORY || address % 8 != 0) {
            return false;
        }
        for (int i = 0; i < 8; i++) {
            memory.put(address + i, (int) (bytes >>> (8 * i)));
        }
        return true;
    }

    public boolean tables(int table, int count, int vectors) {
        if (down || count < 0 || count > MOST_DESCRIPTORS) {
            return false;
        }
        this.table = table & LINEAR;
        this.count = count;
        this.vectors = vectors & LINEAR;
        return true;
    }

    public boolean pages(int directory, boolean on) {
        if (down) {
            return false;
        }
        now.directory = directory & 31;
        memory.paged = on;
        return true;
    }

    public int load(int s, int selector) {
        if (down) {
            return WAS_DOWN;
        }
        if (s != SS && s != DS) {
            return NO_SEGMENT;
        }
        before.copy(now);
        try {
            if (s == SS) {
                loadStack(selector & WORD);
            } else {
                loadData(selector & WORD);
            }
        } catch (IllegalStateException raised) {
            return settle();
        }
        return advance();
    }

    public int read(int s, int offset) {
        if (down) {
            return WAS_DOWN;
        }
        if (s < CS || s > DS) {
            return NO_SEGMENT;
        }
        before.copy(now);
        try {
            now.accumulator = wordIn(s, offset & WORD);
        } catch (IllegalStateException raised) {
            return settle();
        }
        return advance();
    }

    public int write(int s, int offset, int v) {
        if (down) {
            return WAS_DOWN;
        }
        if (s < CS || s > DS) {
            return NO_SEGMENT;
        }
        before.copy(now);
        try {
            setWordIn(s, offset & WORD, v & WORD);
        } catch (IllegalStateException raised) {
            return settle();
        }
        return advance();
    }

    public int push(int v) {
        if (down) {
            return WAS_DOWN;
        }
        before.copy(now);
        try {
            pushWord(v & WORD);
        } catch (IllegalStateException raised) {
            return settle();
        }
        return advance();
    }

    public int pop() {
        if (down) {
            return WAS_DOWN;
        }
        before.copy(now);
        try {
            now.accumulator = popWord();
        } catch (IllegalStateException raised) {
            return settle();
        }
        return advance();
    }

    public int far(int selector, int offset, boolean call) {
        if (down) {
            return WAS_DOWN;
        }
        before.copy(now);
        try {
            transfer(selector & WORD, offset & WORD, call);
        } catch (IllegalStateException raised) {
            return settle();
        }
        return 0;
    }

    public int back() {
        if (down) {
            return WAS_DOWN;
        }
        before.copy(now);
        try {
            goBack(false);
        } catch (IllegalStateException raised) {
            return settle();
        }
        return 0;
    }

    public int trap(int n) {
        if (down) {
            return WAS_DOWN;
        }
        before.copy(now);
        try {
            deliver(n & 255, true, 0);
        } catch (IllegalStateException raised) {
            return settle();
        }
        return 0;
    }

    public int end() {
        if (down) {
            return WAS_DOWN;
        }
        before.copy(now);
        try {
            if ((now.flags & NESTED) != 0) {
                endTask();
            } else {
                goBack(true);
            }
        } catch (IllegalStateException raised) {
            return settle();
        }
        return 0;
    }

    public int register(int k) {
        switch (k) {
            case 0: return now.cs.selector;
            case 1: return now.ss.selector;
            case 2: return now.ds.selector;
            case 3: return now.sp;
            case 4: return now.ip;
            case 5: return now.flags;
            case 6: return now.ring;
            case 7: return now.task;
            case 8: return now.taskState;
            case 9: return now.directory;
            case 10: return fault.address;
            case 11: return now.accumulator;
            case 12: return down ? 1 : 0;
            default: return -1;
        }
    }

    public int segment(int s, int what) {
        if (s < CS || s > DS) {
            return -1;
        }
        Descriptor held = now.held(s);
        switch (what) {
            case 0: return held.base;
            case 1: return held.limit;
            case 2: return held.kind;
            case 3: return held.level;
            default: return -1;
        }
    }

    private int advance() {
        now.ip = next();
        return 0;
    }

    private int next() {
        return (now.ip + 1) & WORD;
    }

    /** Delivers the fault that was raised, or the double fault in its place, or brings the machine down. */
    private int settle() {
        int vector = fault.vector;
        int code = fault.code;
        int answer = 65536 * vector + code;
        boolean delivered = false;
        now.copy(before);
        for (int tries = 0; tries < 2 && !delivered; tries++) {
            try {
                deliver(vector, false, code);
                delivered = true;
            } catch (IllegalStateException raised) {
                now.copy(before);
                vector = DOUBLE;
                code = 0;
            }
        }
        down = !delivered;
        return answer;
    }

    private void deliver(int vector, boolean trapped, int code) {
        readVectorGate(vector, trapped);
        findTarget(true);
        if (leadsInwards()) {
            changeStack(findInnerStack(), 0);
        }
        pushWord(now.flags);
        pushReturn(trapped ? next() : now.ip);
        enter(target, entry.base);
        // No fault is raised whose vector has no code, so only traps go without one.
        if (!trapped) {
            pushWord(code);
        }
        now.flags &= entry.kind == INTERRUPT_GATE ? ~(NESTED | ENABLED) : ~NESTED;
    }

    private void readVectorGate(int vector, boolean trapped) {
        int code = 4 * vector + 2;
        fault.refuse(vector >= VECTOR_GATES, GENERAL, code);
        entry.decode(0, memory.eightAt(vectors + 8 * vector));
        boolean gate = entry.kind == INTERRUPT_GATE || entry.kind == TRAP_GATE;
        fault.refuse(!gate || trapped && entry.level < now.ring, GENERAL, code);
        fault.refuse(!entry.present, MISSING, code);
    }

    private void lookUp(int selector, Descriptor into) {
        int index = selector >> 2;
        fault.refuse(index >= count, GENERAL, codeOf(selector));
        into.decode(selector, memory.eightAt(table + 8 * index));
    }

    private void loadStack(int selector) {
        int code = codeOf(selector);
        fault.refuse(isNull(selector), GENERAL, 0);
        lookUp(selector, stack);
        boolean fits = rplOf(selector) == now.ring && stack.level == now.ring && stack.kind == DATA;
        fault.refuse(!fits, GENERAL, code);
        fault.refuse(!stack.present, STACK, code);
        now.ss.copy(stack);
    }

    private void loadData(int selector) {
        if (isNull(selector)) {
            now.ds.clear();
            now.ds.selector = selector;
            return;
        }
        int code = codeOf(selector);
        lookUp(selector, target);
        boolean allowed = target.kind == CONFORMING
                || target.level >= now.ring && target.level >= rplOf(selector);
        fault.refuse(!target.isReadable() || !allowed, GENERAL, code);
        fault.refuse(!target.present, MISSING, code);
        now.ds.copy(target);
    }

    private void checkAccess(int s, int offset) {
        Descriptor held = now.held(s);
        boolean outside = isNull(held.selector) || offset + 1 > held.limit;
        fault.refuse(outside, s == SS ? STACK : GENERAL, 0);
    }

    private int wordIn(int s, int offset) {
        checkAccess(s, offset);
        return memory.wordAt(now.held(s).base + offset, now.ring);
    }

    private void setWordIn(int s, int offset, int v) {
        checkAccess(s, offset);
        fault.refuse(now.held(s).kind != DATA, GENERAL, 0);
        memory.setWord(now.held(s).base + offset, v, now.ring);
    }

    /** Not by setWordIn, for calls go at most eight deep; the kind is right, for a stack that isn't NULL is data. */
    private void pushWord(int v) {
        now.sp = (now.sp - 2) & WORD;
        checkAccess(SS, now.sp);
        memory.setWord(now.ss.base + now.sp, v, now.ring);
    }

    private int popWord() {
        int v = wordIn(SS, now.sp);
        now.sp = (now.sp + 2) & WORD;
        return v;
    }

    private void pushReturn(int ip) {
        pushWord(now.cs.selector);
        pushWord(ip);
    }

    private void enter(Descriptor code, int offset) {
        fault.refuse(offset > code.limit, GENERAL, 0);
        now.cs.copy(code);
        now.cs.selector = codeOf(code.selector) + now.ring;
        now.ip = offset;
    }

    private void transfer(int selector, int offset, boolean call) {
        int code = codeOf(selector);
        fault.refuse(isNull(selector), GENERAL, 0);
        lookUp(selector, entry);
        if (mayBeEntered(entry) && (entry.kind == CONFORMING || rplOf(selector) <= now.ring)) {
            fault.refuse(!entry.present, MISSING, code);
            if (call) {
                pushReturn(next());
            }
            enter(entry, offset);
            return;
        }
        boolean door = entry.kind == CALL_GATE || entry.kind == TASK;
        boolean allowed = entry.level >= now.ring && entry.level >= rplOf(selector);
        fault.refuse(!door || !allowed, GENERAL, code);
        fault.refuse(!entry.present, MISSING, code);
        if (entry.kind == TASK) {
            switchTask(call ? CALL : JUMP);
        } else {
            passGate(call);
        }
    }

    private boolean mayBeEntered(Descriptor code) {
        return code.kind == CODE && code.level == now.ring
                || code.kind == CONFORMING && code.level <= now.ring;
    }

    private void passGate(boolean call) {
        findTarget(call);
        if (call) {
            if (leadsInwards()) {
                changeStack(findInnerStack(), entry.words);
            }
            pushReturn(next());
        }
        enter(target, entry.base);
    }

    /** Looks up the code that the gate in entry names. */
    private void findTarget(boolean call) {
        int selector = entry.limit;
        fault.refuse(isNull(selector), GENERAL, 0);
        lookUp(selector, target);
        boolean fits = call ? target.isCode() && target.level <= now.ring : mayBeEntered(target);
        fault.refuse(!fits, GENERAL, codeOf(selector));
        fault.refuse(!target.present, MISSING, codeOf(selector));
    }

    private boolean leadsInwards() {
        return target.kind == CODE && target.level < now.ring;
    }

    /** Looks up the stack that the task state names for the ring of the target, and answers its SP. */
    private int findInnerStack() {
        int level = target.level;
        int place = now.taskState + 4 * level + 2;
        int sp = memory.wordAt(place, SYSTEM);
        int selector = memory.wordAt(place + 2, SYSTEM);
        int code = codeOf(selector);
        fault.refuse(isNull(selector), TASK_FAULT, code);
        lookUp(selector, stack);
        boolean fits = stack.kind == DATA && stack.level == level && rplOf(selector) == level;
        fault.refuse(!fits, TASK_FAULT, code);
        fault.refuse(!stack.present, STACK, code);
        return sp;
    }

    /** Goes to the ring of the target and to its stack, which begins with the old stack and the gate's words. */
    private void changeStack(int sp, int wordCount) {
        int oldSp = now.sp;
        int oldSs = now.ss.selector;
        for (int i = 0; i < wordCount; i++) {
            words[i] = wordIn(SS, (oldSp + 2 * i) & WORD);
        }
        now.ring = target.level;
        now.ss.copy(stack);
        now.sp = sp;
        pushWord(oldSs);
        pushWord(oldSp);
        for (int i = wordCount - 1; i >= 0; i--) {
            pushWord(words[i]);
        }
    }

    private void goBack(boolean withFlags) {
        int ip = popWord();
        int selector = popWord();
        if (withFlags) {
            now.flags = popWord() & (ENABLED | NESTED);
        }
        int ring = rplOf(selector);
        findReturn(selector);
        boolean grows = ring > now.ring;
        if (grows) {
            int sp = popWord();
            findOuterStack(popWord(), ring);
            now.ss.copy(stack);
            now.sp = sp;
        }
        now.ring = ring;
        enter(target, ip);
        if (grows) {
            hideData();
        }
    }

    private void findReturn(int selector) {
        int code = codeOf(selector);
        int ring = rplOf(selector);
        fault.refuse(isNull(selector), GENERAL, 0);
        fault.refuse(ring < now.ring, GENERAL, code);
        lookUp(selector, target);
        boolean fits = target.kind == CODE && target.level == ring
                || target.kind == CONFORMING && target.level <= ring;
        fault.refuse(!fits, GENERAL, code);
        fault.refuse(!target.present, MISSING, code);
    }

    private void findOuterStack(int selector, int ring) {
        int code = codeOf(selector);
        fault.refuse(isNull(selector), GENERAL, 0);
        lookUp(selector, stack);
        boolean fits = rplOf(selector) == ring && stack.kind == DATA && stack.level == ring;
        fault.refuse(!fits, GENERAL, code);
        fault.refuse(!stack.present, STACK, code);
    }

    /** Takes inner data away from the outer ring that is returned to. */
    private void hideData() {
        boolean kept = isNull(now.ds.selector) || now.ds.kind == CONFORMING;
        if (!kept && now.ds.level < now.ring) {
            now.ds.clear();
        }
    }

    private void endTask() {
        int selector = memory.wordAt(now.taskState, SYSTEM);
        fault.refuse(isNull(selector), GENERAL, 0);
        lookUp(selector, entry);
        fault.refuse(entry.kind != TASK && entry.kind != BUSY, GENERAL, 0);
        switchTask(RETURN);
    }

    /** Switches to the task in entry. */
    private void switchTask(int way) {
        boolean fits = (entry.kind == BUSY) == (way == RETURN);
        fault.refuse(!fits, GENERAL, codeOf(entry.selector));
        for (int i = 0; i < STATE_WORDS; i++) {
            state[i] = memory.wordAt(entry.base + STATE + 2 * i, SYSTEM);
        }
        saveState(way);
        markTasks(way);
        now.task = codeOf(entry.selector);
        now.taskState = entry.base;
        now.ip = state[0];
        now.flags = state[1] & (ENABLED | NESTED) | (way == CALL ? NESTED : 0);
        now.sp = state[2];
        now.ring = state[6] & 3;
        now.directory = state[7] & 31;
        takeSegment(CS, state[3]);
        takeSegment(SS, state[4]);
        takeSegment(DS, state[5]);
    }

    private void saveState(int way) {
        int place = now.taskState + STATE;
        memory.setWord(place, next(), SYSTEM);
        memory.setWord(place + 2, way == RETURN ? now.flags & ~NESTED : now.flags, SYSTEM);
        memory.setWord(place + 4, now.sp, SYSTEM);
        memory.setWord(place + 6, now.cs.selector, SYSTEM);
        memory.setWord(place + 8, now.ss.selector, SYSTEM);
        memory.setWord(place + 10, now.ds.selector, SYSTEM);
        memory.setWord(place + 12, now.ring, SYSTEM);
        memory.setWord(place + 14, now.directory, SYSTEM);
    }

    private void markTasks(int way) {
        if (way != CALL && !isNull(now.task)) {
            setKind(now.task, TASK);
        }
        if (way != RETURN) {
            setKind(entry.selector, BUSY);
        }
        if (way == CALL) {
            memory.setWord(entry.base, now.task, SYSTEM);
        }
    }

    private void setKind(int selector, int kind) {
        int place = table + 8 * (selector >> 2) + 4;
        int old = memory.byteAt(place, SYSTEM);
        memory.setByte(place, old & 240 | kind, SYSTEM);
    }

    /** A fault that is raised here must not undo the switch, so what was taken is kept ahead of each look-up. */
    private void takeSegment(int s, int selector) {
        now.held(s).clear();
        before.copy(now);
        if (isNull(selector)) {
            fault.refuse(s != DS, TASK_FAULT, 0);
            return;
        }
        lookUp(selector, target);
        fault.refuse(!fitsTask(s) || !target.present, TASK_FAULT, codeOf(selector));
        now.held(s).copy(target);
    }

    private boolean fitsTask(int s) {
        switch (s) {
            case CS: return target.isCode();
            case SS: return target.kind == DATA;
            default: return target.isReadable();
        }
    }

    private static boolean isNull(int selector) {
        return selector >> 2 == 0;
    }

    private static int rplOf(int selector) {
        return selector & 3;
    }

    private static int codeOf(int selector) {
        return selector & ~3;
    }

    /** The fault raised last. Raising it unwinds to the instruction or the delivery that it ends. */
    private static final class Fault {
        int vector;
        int code;
        int address;

        void refuse(boolean wrong, int vector, int code) {
            if (wrong) {
                this.vector = vector;
                this.code = code;
                throw new IllegalStateException();
            }
        }
    }

    /** A selector and what was looked up for it; all is 0 but for the selector when it is NULL. */
    private static final class Descriptor {
        int selector;
        int base;
        int limit;
        int kind;
        int level;
        int words;
        boolean present;

        void decode(int selector, long bytes) {
            this.selector = selector;
            base = (int) bytes & WORD;
            limit = (int) (bytes >>> 16) & WORD;
            kind = (int) (bytes >>> 32) & 15;
            level = (int) (bytes >>> 40) & 3;
            present = (bytes >>> 47 & 1) != 0;
            words = (int) (bytes >>> 48) & 7;
        }

        void copy(Descriptor other) {
            selector = other.selector;
            base = other.base;
            limit = other.limit;
            kind = other.kind;
            level = other.level;
            words = other.words;
            present = other.present;
        }

        void flat(int selector, int kind) {
            this.selector = selector;
            this.kind = kind;
            limit = LINEAR;
            present = true;
        }

        void clear() {
            decode(0, 0L);
        }

        boolean isCode() {
            return kind == CODE || kind == CONFORMING;
        }

        boolean isReadable() {
            return isCode() || kind == READ_ONLY || kind == DATA;
        }
    }

    /** All registers that go back when a fault is raised; the fault address does not. */
    private static final class Registers {
        final Descriptor cs;
        final Descriptor ss;
        final Descriptor ds;
        int sp;
        int ip;
        int flags;
        int ring;
        int task;
        int taskState;
        int directory;
        int accumulator;

        Registers() {
            cs = new Descriptor();
            ss = new Descriptor();
            ds = new Descriptor();
            cs.flat(4, CODE);
            ss.flat(8, DATA);
            ds.flat(8, DATA);
            sp = 512;
            taskState = 1024;
        }

        Descriptor held(int s) {
            switch (s) {
                case CS: return cs;
                case SS: return ss;
                default: return ds;
            }
        }

        void copy(Registers other) {
            cs.copy(other.cs);
            ss.copy(other.ss);
            ds.copy(other.ds);
            sp = other.sp;
            ip = other.ip;
            flags = other.flags;
            ring = other.ring;
            task = other.task;
            taskState = other.taskState;
            directory = other.directory;
            accumulator = other.accumulator;
        }
    }

    /** The bytes, and the way to them from linear addresses through the pages. */
    private static final class Memory {
        final Fault fault;
        final Registers registers;
        final int[] bytes;
        boolean paged;

        Memory(Fault fault, Registers registers) {
            this.fault = fault;
            this.registers = registers;
            bytes = new int[MEMORY];
        }

        int at(int address) {
            return address < MEMORY ? bytes[address] : 255;
        }

        void put(int address, int v) {
            if (address < MEMORY) {
                bytes[address] = v & 255;
            }
        }

        /** The address in memory of a byte that the ring accesses; its pages become SEEN and CHANGED. */
        int locate(int linear, int ring, boolean writing) {
            int address = linear & LINEAR;
            if (!paged) {
                return address;
            }
            int page = address / FRAME;
            int outer = FRAME * registers.directory + 2 * (page / 16);
            int inner = FRAME * frameAt(outer) + 2 * (page % 16);
            int both = bytes[outer] & bytes[inner];
            int needed = writing ? OPEN | WRITABLE : OPEN;
            boolean missing = (both & PRESENT) == 0;
            boolean forbidden = ring == OUTERMOST && (both & needed) != needed;
            if (missing || forbidden) {
                fault.address = address;
            }
            int code = (writing ? 2 : 0) + (ring == OUTERMOST ? 4 : 0);
            fault.refuse(missing, PAGE, code);
            fault.refuse(forbidden, PAGE, code + 1);
            bytes[outer] |= SEEN;
            bytes[inner] |= writing ? SEEN | CHANGED : SEEN;
            return FRAME * frameAt(inner) + address % FRAME;
        }

        /** The frame of an entry: bits 8 .. 12, so it stands in the entry's higher byte. */
        int frameAt(int entry) {
            return bytes[entry + 1] & 31;
        }

        int byteAt(int linear, int ring) {
            return at(locate(linear, ring, false));
        }

        void setByte(int linear, int v, int ring) {
            put(locate(linear, ring, true), v);
        }

        int wordAt(int linear, int ring) {
            int low = at(locate(linear, ring, false));
            int high = at(locate(linear + 1, ring, false));
            return low + 256 * high;
        }

        void setWord(int linear, int v, int ring) {
            put(locate(linear, ring, true), v);
            put(locate(linear + 1, ring, true), v >> 8);
        }

        long eightAt(int linear) {
            long value = 0;
            for (int i = 0; i < 8; i++) {
                value |= (long) at(locate(linear + i, SYSTEM, false)) << (8 * i);
            }
            return value;
        }
    }
}
