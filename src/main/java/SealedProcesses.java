import java.util.Arrays;

/**
 * A small system whose processes share one machine and are kept apart by types alone.
 *
 * <p>Rows are made once and used again, since all calls of a run live in one room: only load() makes
 * more, and what it makes is bounded by the bytes that feed() can bring in an object's 512 calls.
 */
public final class SealedProcesses {
    public static final int NONE = -1;

    private static final int REFUSED = -2;
    private static final int NO_VALUE = -2147483648;
    private static final int TAPE_SIZE = 2000;
    private static final int SHELF_SIZE = 6;

    private static final int FAULT_NONE = 0;
    private static final int FAULT_FORM = 1;
    private static final int FAULT_WRONG = 2;
    private static final int FAULT_MODULE = 3;
    private static final int FAULT_FUNCTION = 4;
    private static final int FAULT_END = 5;
    private static final int FAULT_LONE_END = 6;

    // A type is its first byte, and above it the numbers that follow, eight bits each.
    private static final int INT = 0;
    private static final int NODE = 1;
    private static final int ROW = 2;
    private static final int ROWS = 3;
    private static final int BLOCK = 4;
    private static final int END = 5;
    private static final int NIL = 6;
    private static final int EMPTY = 7;
    private static final int NO_TYPE = -1;
    private static final int NO_TYPE_BYTE = 255;

    private static final int MOST_RECORDS = 8;
    private static final int MOST_FIELDS = 6;
    private static final int MOST_CONTRACTS = 4;
    private static final int MOST_STATES = 8;
    private static final int MOST_MESSAGES = 4;
    private static final int MOST_FUNCTIONS = 10;
    private static final int MOST_PARAMETERS = 4;
    private static final int MOST_LOCALS = 10;
    private static final int MOST_CODE = 240;
    private static final int MOST_STACK = 16;
    private static final int FRAME = MOST_LOCALS + MOST_STACK;

    private static final int MOST_TASKS = 12;
    private static final int MOST_BOOTED = 6;
    private static final int MOST_NUMBERS = 8;
    private static final int MOST_CHANNELS = 12;
    private static final int MOST_ENDS = 2 * MOST_CHANNELS;
    private static final int MOST_WAITING = 4;
    private static final int MOST_BLOCK_CELLS = 256;
    private static final int MOST_BLOCKS = MOST_BLOCK_CELLS / 2;
    private static final int MOST_ACTIVATIONS = 16;
    private static final int MOST_OUTS = 500;
    private static final int MOST_HEAP_CELLS = 1024;
    private static final int MOST_RUN = 10000;
    private static final int TURN_STEPS = 8;
    private static final int WAITING_OWNER = 100;

    private static final int STATUS_NEVER = 0;
    private static final int STATUS_GOES_ON = 1;
    private static final int STATUS_RECEIVES = 2;
    private static final int STATUS_SENDS = 3;
    private static final int STATUS_OVER = 4;
    private static final int STATUS_TRAPPED = 5;

    private static final int TRAP_NIL = 1;
    private static final int TRAP_INDEX = 2;
    private static final int TRAP_DIVISOR = 3;
    private static final int TRAP_LENGTH = 4;
    private static final int TRAP_HEAP = 5;
    private static final int TRAP_BLOCK = 6;
    private static final int TRAP_CHANNEL = 7;
    private static final int TRAP_PROCESS = 8;
    private static final int TRAP_ACTIVATION = 9;
    private static final int TRAP_OUT = 10;

    private static final int OP_PUSH = 0;
    private static final int OP_NIL = 1;
    private static final int OP_LOAD = 2;
    private static final int OP_STORE = 3;
    private static final int OP_POP = 4;
    private static final int OP_DUP = 5;
    private static final int OP_SWAP = 6;
    private static final int OP_ADD = 7;
    private static final int OP_SUB = 8;
    private static final int OP_MUL = 9;
    private static final int OP_DIV = 10;
    private static final int OP_REM = 11;
    private static final int OP_AND = 12;
    private static final int OP_OR = 13;
    private static final int OP_XOR = 14;
    private static final int OP_SHL = 15;
    private static final int OP_SHR = 16;
    private static final int OP_LESS = 17;
    private static final int OP_SAME = 18;
    private static final int OP_NONE = 19;
    private static final int OP_JUMP = 20;
    private static final int OP_ZERO = 21;
    private static final int OP_NEW = 22;
    private static final int OP_GET = 23;
    private static final int OP_PUT = 24;
    private static final int OP_ROW = 25;
    private static final int OP_ROWS = 26;
    private static final int OP_LENGTH = 27;
    private static final int OP_TAKE = 28;
    private static final int OP_LAY = 29;
    private static final int OP_CALL = 30;
    private static final int OP_RETURN = 31;
    private static final int OP_BLOCK = 32;
    private static final int OP_SEE = 33;
    private static final int OP_SET = 34;
    private static final int OP_FREE = 35;
    private static final int OP_CHANNEL = 36;
    private static final int OP_SEND = 37;
    private static final int OP_RECEIVE = 38;
    private static final int OP_CLOSE = 39;
    private static final int OP_SPAWN = 40;
    private static final int OP_YIELD = 41;
    private static final int OP_EXIT = 42;
    private static final int OP_OUT = 43;

    private static final int SHAPE_BARE = 0;
    private static final int SHAPE_CONSTANT = 1;
    private static final int SHAPE_LOCAL = 2;
    private static final int SHAPE_TARGET = 3;
    private static final int SHAPE_RECORD = 4;
    private static final int SHAPE_FIELD = 5;
    private static final int SHAPE_FUNCTION = 6;
    private static final int SHAPE_BLOCK = 7;
    private static final int SHAPE_CONTRACT = 8;
    private static final int SHAPE_MESSAGE = 9;
    private static final int SHAPE_RECEIVE = 10;

    // What follows each instruction's first byte, by that byte.
    private static final int[] SHAPES = {
        1, 0, 2, 2, 0, 0, 0, 0, 0, 0, 0,
        0, 0, 0, 0, 0, 0, 0, 0, 0, 3, 3,
        4, 5, 5, 0, 4, 0, 0, 0, 6, 0, 7,
        5, 5, 0, 8, 9, 10, 0, 6, 0, 0, 0
    };

    private final int[] tape = new int[TAPE_SIZE];
    private int tapeLength;
    private final Program[] shelf = new Program[SHELF_SIZE];
    private int faultKind = NONE;
    private int faultPlace = NONE;
    private final Decoder decoder = new Decoder();
    private final Checker checker = new Checker();
    private final Manifest manifest = new Manifest();
    private final Machine machine = new Machine();
    private final Engine engine = new Engine(machine);

    public SealedProcesses() {
    }

    public int feed(int a, int b, int c, int d, int e) {
        if (tapeLength + 20 > TAPE_SIZE) {
            return NONE;
        }
        layOnTape(a);
        layOnTape(b);
        layOnTape(c);
        layOnTape(d);
        layOnTape(e);
        return tapeLength;
    }

    public int load(int n) {
        if (n < 0 || n > tapeLength) {
            return REFUSED;
        }
        tapeLength = 0;
        Program program = decoder.decode(tape, n);
        if (program == null) {
            return refuse(FAULT_FORM, decoder.faultPlace());
        }
        for (int f = 0; f < program.routines.length; f++) {
            Routine routine = program.routines[f];
            if (routine != null && !checker.isRight(program, routine)) {
                return refuse(FAULT_WRONG, routine.codeStart);
            }
        }
        refuse(FAULT_NONE, NONE);
        return shelve(program);
    }

    public int fault(int what) {
        if (what == 0) {
            return faultKind;
        }
        return what == 1 ? faultPlace : NONE;
    }

    public boolean discard(int m) {
        if (onShelf(m) == null || m < 0 || m >= SHELF_SIZE) {
            return false;
        }
        shelf[m] = null;
        return true;
    }

    public int module(int m, int f, int what) {
        Program program = onShelf(m);
        if (program == null) {
            return NONE;
        }
        switch (what) {
            case 0:
                return program.fieldCounts.length;
            case 1:
                return program.contracts.length;
            case 2:
                return program.routines.length;
            case 3:
                return program.bytes.length;
            default:
                return aboutRoutine(program.routineAt(f), what);
        }
    }

    public int typeAt(int m, int f, int place, int what, int i) {
        Program program = onShelf(m);
        Routine routine = program == null ? null : program.routineAt(f);
        if (routine == null) {
            return NONE;
        }
        if (what == 0) {
            return routine.stackKind(place, i);
        }
        return what == 1 ? routine.localKind(place, i) : NONE;
    }

    public int boot(int n) {
        if (n < 0 || n > tapeLength) {
            return REFUSED;
        }
        tapeLength = 0;
        manifest.read(tape, n, shelf);
        if (manifest.faultKind != FAULT_NONE) {
            return refuse(manifest.faultKind, manifest.faultPlace);
        }
        refuse(FAULT_NONE, NONE);
        machine.start(manifest);
        return manifest.taskCount;
    }

    public int run(int n) {
        if (!machine.booted || n < 0 || n > MOST_RUN) {
            return NONE;
        }
        return engine.advance(n);
    }

    public int about(int what) {
        if (!machine.booted) {
            return NONE;
        }
        switch (what) {
            case 0:
                return machine.steps;
            case 1:
                return engine.isStill() ? 1 : 0;
            case 2:
                return machine.countGoing();
            case 3:
                return machine.goods.countChannels();
            case 4:
                return machine.goods.countBlocks();
            case 5:
                return machine.goods.blockCells;
            case 6:
                return machine.outCount;
            default:
                return NONE;
        }
    }

    public int process(int p, int what) {
        Task task = machine.taskAt(p);
        if (!machine.booted || task == null || task.status == STATUS_NEVER) {
            return NONE;
        }
        switch (what) {
            case 0:
                return task.status;
            case 1:
                return task.trap;
            case 2:
                return task.shelfPlace;
            case 8:
                return task.heap.limit;
            case 9:
                return task.steps;
            default:
                return what >= 3 && what <= 7 ? task.aboutActivation(what) : NONE;
        }
    }

    public int value(int p, int what, int i) {
        Task task = machine.taskAt(p);
        if (!machine.booted || task == null || task.depth == 0) {
            return NO_VALUE;
        }
        if (what == 0 && i >= 0 && i < task.height) {
            return task.shown(MOST_LOCALS + i);
        }
        Routine routine = task.program.routineAt(task.routine);
        if (what == 1 && i >= 0 && routine != null && i < routine.localCount) {
            return task.shown(i);
        }
        return NO_VALUE;
    }

    public int block(int b, int what) {
        Goods goods = machine.goods;
        if (!goods.isBlock(b)) {
            return NONE;
        }
        if (what == 0) {
            return goods.blockSizes[b];
        }
        if (what == 1) {
            return goods.blockOwners[b];
        }
        return what >= 10 && what - 10 < goods.blockSizes[b] ? goods.blockField(b, what - 10) : NONE;
    }

    public int channel(int c, int side, int what) {
        Goods goods = machine.goods;
        if (c < 0 || c >= MOST_CHANNELS || side < 0 || side > 1 || !goods.isOpen(2 * c + side)) {
            return NONE;
        }
        switch (what) {
            case 0:
                return goods.endStates[2 * c + side];
            case 1:
                return goods.endOwners[2 * c + side];
            case 2:
                return goods.endWaiting[2 * c + side];
            default:
                return NONE;
        }
    }

    public int output(int i, int what) {
        if (i < 0 || i >= machine.outCount || i >= MOST_OUTS) {
            return NONE;
        }
        if (what == 0) {
            return machine.outTasks[i];
        }
        return what == 1 ? machine.outValues[i] : NONE;
    }

    private void layOnTape(int number) {
        for (int shift = 24; shift >= 0; shift -= 8) {
            if (tapeLength < TAPE_SIZE) {
                tape[tapeLength] = (number >>> shift) & 255;
                tapeLength++;
            }
        }
    }

    private int refuse(int kind, int place) {
        faultKind = kind;
        faultPlace = place;
        return NONE;
    }

    private int shelve(Program program) {
        for (int m = 0; m < SHELF_SIZE; m++) {
            if (shelf[m] == null) {
                shelf[m] = program;
                return m;
            }
        }
        return NONE;
    }

    private Program onShelf(int m) {
        return m >= 0 && m < SHELF_SIZE ? shelf[m] : null;
    }

    private static int aboutRoutine(Routine routine, int what) {
        if (routine == null) {
            return NONE;
        }
        switch (what) {
            case 10:
                return routine.paramCount;
            case 11:
                return routine.localCount;
            case 12:
                return routine.codeLength;
            case 13:
                return routine.codeStart;
            case 14:
                return routine.mostStack;
            default:
                return NONE;
        }
    }

    private static int kindOf(int type) {
        return type & 255;
    }

    private static int firstOf(int type) {
        return (type >> 8) & 255;
    }

    private static int stateOf(int type) {
        return (type >> 16) & 255;
    }

    private static int sideOf(int type) {
        return (type >> 24) & 1;
    }

    private static int endType(int contract, int state, int side) {
        return END | contract << 8 | state << 16 | side << 24;
    }

    private static boolean isPointer(int type) {
        int kind = type & 255;
        return kind == NODE || kind == ROW || kind == ROWS;
    }

    private static boolean isLinear(int type) {
        int kind = type & 255;
        return kind == BLOCK || kind == END;
    }

    private static int instructionLength(int op, int operand) {
        int shape = op >= 0 && op < SHAPES.length ? SHAPES[op] : SHAPE_BARE;
        switch (shape) {
            case SHAPE_BARE:
                return 1;
            case SHAPE_CONSTANT:
                return 5;
            case SHAPE_RECEIVE:
                return 2 + operand;
            default:
                return 2;
        }
    }

    /** A module: its bytes and what they tell. */
    private static final class Program {
        final int[] bytes;
        int[] fieldCounts = new int[0];
        int[] fieldTypes = new int[0];
        // Of each record a bit for each field that points: what the collector follows.
        int[] pointerMasks = new int[0];
        Contract[] contracts = new Contract[0];
        Routine[] routines = new Routine[0];

        Program(int[] bytes) {
            this.bytes = bytes;
        }

        void makeRecords(int count) {
            int size = Math.max(count, 0);
            fieldCounts = new int[size];
            fieldTypes = new int[size * MOST_FIELDS];
            pointerMasks = new int[size];
        }

        void setField(int record, int field, int type) {
            if (record < 0 || record >= fieldCounts.length || field < 0 || field >= MOST_FIELDS) {
                return;
            }
            fieldTypes[record * MOST_FIELDS + field] = type;
            fieldCounts[record] = field + 1;
            if (isPointer(type)) {
                pointerMasks[record] |= 1 << field;
            }
        }

        int byteAt(int place) {
            return place >= 0 && place < bytes.length ? bytes[place] : 0;
        }

        int wordAt(int place) {
            return byteAt(place) << 24 | byteAt(place + 1) << 16 | byteAt(place + 2) << 8 | byteAt(place + 3);
        }

        boolean isRecord(int record) {
            return record >= 0 && record < fieldCounts.length;
        }

        int fieldCount(int record) {
            return record >= 0 && record < fieldCounts.length ? fieldCounts[record] : 0;
        }

        int fieldType(int record, int field) {
            if (field < 0 || field >= fieldCount(record)) {
                return NO_TYPE;
            }
            return fieldTypes[record * MOST_FIELDS + field];
        }

        int pointerMask(int record) {
            return isRecord(record) ? pointerMasks[record] : 0;
        }

        Contract contractAt(int contract) {
            return contract >= 0 && contract < contracts.length ? contracts[contract] : null;
        }

        Routine routineAt(int routine) {
            return routine >= 0 && routine < routines.length ? routines[routine] : null;
        }
    }

    /** A contract: of each state whose turn it is, and its messages. */
    private static final class Contract {
        final int stateCount;
        final int[] turns = new int[MOST_STATES];
        final int[] messageCounts = new int[MOST_STATES];
        final int[] loads = new int[MOST_STATES * MOST_MESSAGES];
        final int[] nexts = new int[MOST_STATES * MOST_MESSAGES];

        Contract(int stateCount) {
            this.stateCount = Math.min(stateCount, MOST_STATES);
        }

        boolean isState(int state) {
            return state >= 0 && state < stateCount;
        }

        void setState(int state, int turn, int messages) {
            if (isState(state)) {
                turns[state] = turn;
                messageCounts[state] = messages;
            }
        }

        void setMessage(int state, int message, int load, int next) {
            if (isState(state) && message >= 0 && message < MOST_MESSAGES) {
                loads[state * MOST_MESSAGES + message] = load;
                nexts[state * MOST_MESSAGES + message] = next;
            }
        }

        boolean isTurnOf(int state, int side) {
            return isState(state) && turns[state] == side + 1;
        }

        boolean isNobodys(int state) {
            return isState(state) && turns[state] == 0;
        }

        int messageCount(int state) {
            return isState(state) ? messageCounts[state] : 0;
        }

        // Where the message stands in the rows, or NONE.
        private int slotOf(int state, int message) {
            boolean isThere = state >= 0 && state < stateCount && message >= 0 && message < messageCounts[state];
            return isThere && message < MOST_MESSAGES ? state * MOST_MESSAGES + message : NONE;
        }

        boolean isMessage(int state, int message) {
            return slotOf(state, message) != NONE;
        }

        int loadOf(int state, int message) {
            int slot = slotOf(state, message);
            return slot >= 0 && slot < loads.length ? loads[slot] : NO_TYPE;
        }

        int nextOf(int state, int message) {
            int slot = slotOf(state, message);
            return slot >= 0 && slot < nexts.length ? nexts[slot] : 0;
        }
    }

    /** A function, and the types that were found to come to each place of its code. */
    private static final class Routine {
        int paramCount;
        final int[] paramTypes = new int[MOST_PARAMETERS];
        int result = NO_TYPE;
        int localCount;
        int codeStart;
        int codeLength;
        int mostStack;
        boolean[] begins = new boolean[0];
        // NONE where nothing comes.
        int[] heights = new int[0];
        // A frame for each place: the locals, and above them the stack.
        int[] types = new int[0];

        void setCode(int start, int length) {
            codeStart = start;
            codeLength = Math.max(length, 0);
            begins = new boolean[codeLength];
        }

        void makeTypes() {
            heights = new int[codeLength];
            Arrays.fill(heights, NONE);
            types = new int[codeLength * FRAME];
        }

        void setBegin(int place) {
            if (place >= 0 && place < begins.length) {
                begins[place] = true;
            }
        }

        boolean isBegin(int place) {
            return place >= 0 && place < begins.length && begins[place];
        }

        int paramType(int i) {
            return i >= 0 && i < paramCount && i < MOST_PARAMETERS ? paramTypes[i] : NO_TYPE;
        }

        int heightAt(int place) {
            return place >= 0 && place < heights.length ? heights[place] : NONE;
        }

        int slotType(int place, int slot) {
            if (heightAt(place) == NONE || slot < 0 || slot >= FRAME) {
                return NO_TYPE;
            }
            return types[place * FRAME + slot];
        }

        void setSlotType(int place, int slot, int type) {
            if (place >= 0 && place < heights.length && slot >= 0 && slot < FRAME) {
                types[place * FRAME + slot] = type;
            }
        }

        void setHeight(int place, int height) {
            if (place >= 0 && place < heights.length) {
                heights[place] = height;
                mostStack = Math.max(mostStack, height);
            }
        }

        int stackKind(int place, int i) {
            return i >= 0 && i < heightAt(place) ? kindOf(slotType(place, MOST_LOCALS + i)) : NONE;
        }

        int localKind(int place, int i) {
            return i >= 0 && i < localCount && heightAt(place) != NONE ? kindOf(slotType(place, i)) : NONE;
        }
    }

    /** Reads a module's bytes: first its form, then whether all that it names is there. */
    private static final class Decoder {
        private static final int FIELD_TYPES = 1 << INT | 1 << NODE | 1 << ROW | 1 << ROWS;
        private static final int ALL_TYPES = FIELD_TYPES | 1 << BLOCK | 1 << END;
        private static final int OR_NOTHING = 1 << 8;
        private static final int LOAD_TYPES = 1 << INT | 1 << BLOCK | 1 << END | OR_NOTHING;

        private static final int NAMES_NOTHING = 0;
        private static final int NAMES_RECORD = 1;
        private static final int NAMES_BLOCK_RECORD = 2;
        private static final int NAMES_CONTRACT = 3;
        private static final int NAMES_STATE = 4;
        private static final int NAMES_FUNCTION = 5;
        private static final int NAMES_TARGET = 6;

        // What each byte names, and of which contract or function: looked at when all is read.
        private final int[] nameKinds = new int[TAPE_SIZE];
        private final int[] nameScopes = new int[TAPE_SIZE];
        private Program program = new Program(new int[0]);
        private int at;
        private int limit;
        private boolean failed;

        /** The module, or null: then faultPlace() tells where it failed. */
        Program decode(int[] tape, int n) {
            int length = Math.max(0, Math.min(n, tape.length));
            program = new Program(Arrays.copyOf(tape, length));
            Arrays.fill(nameKinds, NAMES_NOTHING);
            at = 0;
            limit = length;
            failed = false;
            readNumber(83, 83);
            readNumber(77, 77);
            readRecords();
            readContracts();
            readRoutines();
            if (at < limit) {
                failed = true;
            }
            if (!failed) {
                lookAtNames();
            }
            return failed ? null : program;
        }

        int faultPlace() {
            return at;
        }

        // A failure leaves 'at' where it is: that is the fault's place.
        private int readNumber(int least, int most) {
            int[] bytes = program.bytes;
            if (failed || at < 0 || at >= limit || at >= bytes.length) {
                failed = true;
                return least;
            }
            int number = bytes[at];
            if (number < least || number > most) {
                failed = true;
                return least;
            }
            at++;
            return number;
        }

        private int readName(int kind, int scope) {
            if (!failed && at >= 0 && at < TAPE_SIZE) {
                nameKinds[at] = kind;
                nameScopes[at] = scope;
            }
            return readNumber(0, 255);
        }

        private int readType(int allowed) {
            if (failed || at >= limit) {
                failed = true;
                return NO_TYPE;
            }
            int kind = program.byteAt(at);
            if (kind == NO_TYPE_BYTE && (allowed & OR_NOTHING) != 0) {
                at++;
                return NO_TYPE;
            }
            if (kind > END || (allowed >> kind & 1) == 0) {
                failed = true;
                return NO_TYPE;
            }
            at++;
            if (kind == INT || kind == ROW) {
                return kind;
            }
            if (kind == END) {
                return readEndType();
            }
            return kind | readName(kind == BLOCK ? NAMES_BLOCK_RECORD : NAMES_RECORD, 0) << 8;
        }

        private int readEndType() {
            int contract = readName(NAMES_CONTRACT, 0);
            int state = readName(NAMES_STATE, contract);
            int side = readNumber(0, 1);
            return endType(contract, state, side);
        }

        private void readRecords() {
            int count = readNumber(0, MOST_RECORDS);
            program.makeRecords(count);
            for (int r = 0; r < count && !failed; r++) {
                int fields = readNumber(1, MOST_FIELDS);
                for (int f = 0; f < fields && !failed; f++) {
                    program.setField(r, f, readType(FIELD_TYPES));
                }
            }
        }

        private void readContracts() {
            int count = readNumber(0, MOST_CONTRACTS);
            Contract[] contracts = new Contract[Math.max(count, 0)];
            for (int c = 0; c < count && !failed; c++) {
                contracts[c] = readContract(c);
            }
            program.contracts = contracts;
        }

        private Contract readContract(int c) {
            Contract contract = new Contract(readNumber(1, MOST_STATES));
            for (int s = 0; s < contract.stateCount && !failed; s++) {
                int turn = readNumber(0, 2);
                int messages = turn == 0 ? readNumber(0, 0) : readNumber(1, MOST_MESSAGES);
                contract.setState(s, turn, messages);
                for (int t = 0; t < messages && !failed; t++) {
                    int load = readType(LOAD_TYPES);
                    int next = readName(NAMES_STATE, c);
                    contract.setMessage(s, t, load, next);
                }
            }
            return contract;
        }

        private void readRoutines() {
            int count = readNumber(1, MOST_FUNCTIONS);
            Routine[] routines = new Routine[Math.max(count, 0)];
            for (int f = 0; f < count && !failed; f++) {
                routines[f] = readRoutine(f);
            }
            program.routines = routines;
        }

        private Routine readRoutine(int f) {
            Routine routine = new Routine();
            int params = readNumber(0, MOST_PARAMETERS);
            for (int i = 0; i < params && i < MOST_PARAMETERS && !failed; i++) {
                routine.paramTypes[i] = readType(ALL_TYPES);
            }
            routine.paramCount = params;
            routine.result = readType(ALL_TYPES | OR_NOTHING);
            routine.localCount = readNumber(params, MOST_LOCALS);
            int length = readNumber(1, MOST_CODE);
            routine.setCode(at, length);
            int whole = limit;
            limit = Math.min(at + length, whole);
            int end = at + length;
            for (int count = 0; count < MOST_CODE && at < end && !failed; count++) {
                routine.setBegin(at - routine.codeStart);
                readInstruction(f, routine.localCount);
            }
            limit = whole;
            return routine;
        }

        private void readInstruction(int f, int locals) {
            int op = readNumber(0, OP_OUT);
            if (failed || op < 0 || op >= SHAPES.length) {
                return;
            }
            switch (SHAPES[op]) {
                case SHAPE_CONSTANT:
                    for (int i = 0; i < 4; i++) {
                        readNumber(0, 255);
                    }
                    break;
                case SHAPE_LOCAL:
                    readNumber(0, locals - 1);
                    break;
                case SHAPE_TARGET:
                    readName(NAMES_TARGET, f);
                    break;
                case SHAPE_RECORD:
                    readName(NAMES_RECORD, 0);
                    break;
                case SHAPE_BLOCK:
                    readName(NAMES_BLOCK_RECORD, 0);
                    break;
                case SHAPE_FIELD:
                    readNumber(0, MOST_FIELDS - 1);
                    break;
                case SHAPE_FUNCTION:
                    readName(NAMES_FUNCTION, 0);
                    break;
                case SHAPE_CONTRACT:
                    readName(NAMES_CONTRACT, 0);
                    break;
                case SHAPE_MESSAGE:
                    readNumber(0, MOST_MESSAGES - 1);
                    break;
                case SHAPE_RECEIVE:
                    readTargets(f);
                    break;
                default:
                    break;
            }
        }

        private void readTargets(int f) {
            int count = readNumber(1, MOST_MESSAGES);
            for (int i = 0; i < count && !failed; i++) {
                readName(NAMES_TARGET, f);
            }
        }

        private void lookAtNames() {
            for (int place = 0; place < limit && place < TAPE_SIZE; place++) {
                if (!isThere(nameKinds[place], nameScopes[place], program.byteAt(place))) {
                    failed = true;
                    at = place;
                    return;
                }
            }
        }

        private boolean isThere(int kind, int scope, int name) {
            switch (kind) {
                case NAMES_RECORD:
                    return program.isRecord(name);
                case NAMES_BLOCK_RECORD:
                    return program.isRecord(name) && program.pointerMask(name) == 0;
                case NAMES_CONTRACT:
                    return program.contractAt(name) != null;
                case NAMES_STATE:
                    Contract contract = program.contractAt(scope);
                    return contract != null && contract.isState(name);
                case NAMES_FUNCTION:
                    return program.routineAt(name) != null;
                case NAMES_TARGET:
                    Routine routine = program.routineAt(scope);
                    return routine != null && routine.isBegin(name);
                default:
                    return true;
            }
        }
    }

    /** Finds what types come to each place of the code, and whether the code is right. */
    private static final class Checker {
        // Each change moves one of a place's slots up, at most twice, or brings its first state.
        private static final int MOST_ROUNDS = MOST_CODE * (2 * FRAME + 1) + 1;

        private Program program = new Program(new int[0]);
        private Routine routine = new Routine();
        private final boolean[] changed = new boolean[MOST_CODE];
        private boolean anyChanged;
        private final int[] locals = new int[MOST_LOCALS];
        private final int[] stack = new int[MOST_STACK];
        private int height;
        private boolean wrong;
        private boolean goesOn;

        /** Whether the function is right; what comes to its places is noted in it. */
        boolean isRight(Program checked, Routine function) {
            program = checked;
            routine = function;
            routine.makeTypes();
            for (int place = 0; place < MOST_CODE; place++) {
                changed[place] = false;
            }
            for (int i = 0; i < MOST_LOCALS; i++) {
                locals[i] = i < routine.paramCount ? routine.paramType(i) : EMPTY;
            }
            height = 0;
            wrong = false;
            flowTo(0);
            for (int round = 0; round < MOST_ROUNDS && anyChanged && !wrong; round++) {
                anyChanged = false;
                for (int place = 0; place < routine.codeLength && place < MOST_CODE && !wrong; place++) {
                    if (changed[place]) {
                        changed[place] = false;
                        visit(place);
                    }
                }
            }
            return !wrong;
        }

        private void flowTo(int place) {
            if (place < 0 || place >= routine.codeLength || place >= MOST_CODE) {
                wrong = true;
                return;
            }
            int before = routine.heightAt(place);
            if (before == NONE) {
                bringFirst(place);
            } else if (before == height) {
                joinWith(place);
            } else {
                wrong = true;
            }
        }

        private void bringFirst(int place) {
            routine.setHeight(place, height);
            for (int i = 0; i < MOST_LOCALS; i++) {
                routine.setSlotType(place, i, locals[i]);
            }
            for (int i = 0; i < height && i < MOST_STACK; i++) {
                routine.setSlotType(place, MOST_LOCALS + i, stack[i]);
            }
            markChanged(place);
        }

        private void joinWith(int place) {
            for (int i = 0; i < MOST_LOCALS; i++) {
                int before = routine.slotType(place, i);
                int joined = join(before, locals[i]);
                if (joined == NO_TYPE) {
                    wrong = wrong || isLinear(before) || isLinear(locals[i]);
                    joined = EMPTY;
                }
                replace(place, i, before, joined);
            }
            for (int i = 0; i < height && i < MOST_STACK; i++) {
                int before = routine.slotType(place, MOST_LOCALS + i);
                int joined = join(before, stack[i]);
                wrong = wrong || joined == NO_TYPE;
                replace(place, MOST_LOCALS + i, before, joined);
            }
        }

        private void replace(int place, int slot, int before, int joined) {
            if (joined != before) {
                routine.setSlotType(place, slot, joined);
                markChanged(place);
            }
        }

        private void markChanged(int place) {
            if (place >= 0 && place < MOST_CODE) {
                changed[place] = true;
                anyChanged = true;
            }
        }

        private static int join(int a, int b) {
            if (a == b || b == NIL && isPointer(a)) {
                return a;
            }
            return a == NIL && isPointer(b) ? b : NO_TYPE;
        }

        private void visit(int place) {
            bringBack(place);
            int start = routine.codeStart + place;
            int op = program.byteAt(start);
            int operand = program.byteAt(start + 1);
            goesOn = true;
            if (op <= OP_SWAP) {
                moveTypes(op, operand);
            } else if (op <= OP_SAME) {
                popInt();
                popInt();
                push(INT);
            } else if (op <= OP_ZERO) {
                branch(op, operand);
            } else if (op <= OP_ROWS) {
                useHeap(op, operand);
            } else if (op <= OP_LAY) {
                useRow(op);
            } else if (op >= OP_BLOCK && op <= OP_FREE) {
                useBlock(op, operand);
            } else if (op == OP_SEND) {
                send(operand);
            } else if (op == OP_RECEIVE) {
                receive(operand, start + 2);
            } else {
                useOthers(op, operand);
            }
            if (goesOn && !wrong) {
                flowTo(place + instructionLength(op, operand));
            }
        }

        private void bringBack(int place) {
            height = Math.min(routine.heightAt(place), MOST_STACK);
            for (int i = 0; i < MOST_LOCALS; i++) {
                locals[i] = routine.slotType(place, i);
            }
            for (int i = 0; i < height; i++) {
                stack[i] = routine.slotType(place, MOST_LOCALS + i);
            }
        }

        private void moveTypes(int op, int operand) {
            switch (op) {
                case OP_PUSH:
                    push(INT);
                    break;
                case OP_NIL:
                    push(NIL);
                    break;
                case OP_LOAD:
                    loadLocal(operand);
                    break;
                case OP_STORE:
                    storeLocal(operand);
                    break;
                case OP_POP:
                    popUnowned();
                    break;
                case OP_DUP:
                    int type = popUnowned();
                    push(type);
                    push(type);
                    break;
                default:
                    int upper = pop();
                    int lower = pop();
                    push(upper);
                    push(lower);
                    break;
            }
        }

        private void loadLocal(int l) {
            if (l < 0 || l >= MOST_LOCALS || locals[l] == EMPTY) {
                wrong = true;
                return;
            }
            push(locals[l]);
            if (isLinear(locals[l])) {
                locals[l] = EMPTY;
            }
        }

        private void storeLocal(int l) {
            int type = pop();
            if (l < 0 || l >= MOST_LOCALS || isLinear(locals[l])) {
                wrong = true;
                return;
            }
            locals[l] = type;
        }

        private void branch(int op, int target) {
            if (op == OP_NONE) {
                int type = pop();
                require(isPointer(type) || type == NIL);
                push(INT);
                return;
            }
            if (op == OP_ZERO) {
                popInt();
            } else {
                goesOn = false;
            }
            if (!wrong) {
                flowTo(target);
            }
        }

        private void useHeap(int op, int operand) {
            switch (op) {
                case OP_NEW:
                    push(NODE | operand << 8);
                    break;
                case OP_GET:
                    getField(operand);
                    break;
                case OP_PUT:
                    int given = pop();
                    int node = pop();
                    if (endsAtNil(node)) {
                        break;
                    }
                    require(kindOf(node) == NODE && fits(given, program.fieldType(firstOf(node), operand)));
                    break;
                case OP_ROW:
                    popInt();
                    push(ROW);
                    break;
                default:
                    popInt();
                    push(ROWS | operand << 8);
                    break;
            }
        }

        private void getField(int field) {
            int node = pop();
            if (endsAtNil(node)) {
                return;
            }
            int type = kindOf(node) == NODE ? program.fieldType(firstOf(node), field) : NO_TYPE;
            require(type != NO_TYPE);
            push(type);
        }

        private void useRow(int op) {
            int given = op == OP_LAY ? pop() : INT;
            if (op != OP_LENGTH) {
                popInt();
            }
            int row = pop();
            if (endsAtNil(row)) {
                return;
            }
            int kind = kindOf(row);
            require(kind == ROW || kind == ROWS);
            int item = kind == ROWS ? NODE | firstOf(row) << 8 : INT;
            if (op == OP_LENGTH) {
                push(INT);
            } else if (op == OP_TAKE) {
                push(item);
            } else {
                require(fits(given, item));
            }
        }

        // What is surely NIL is a trap: nothing goes on behind it.
        private boolean endsAtNil(int type) {
            if (type == NIL) {
                goesOn = false;
            }
            return type == NIL;
        }

        private void useBlock(int op, int operand) {
            if (op == OP_BLOCK) {
                push(BLOCK | operand << 8);
                return;
            }
            if (op == OP_SET) {
                popInt();
            }
            int block = pop();
            require(kindOf(block) == BLOCK);
            if (op == OP_FREE) {
                return;
            }
            require(operand < program.fieldCount(firstOf(block)));
            push(block);
            if (op == OP_SEE) {
                push(INT);
            }
        }

        private Contract contractOf(int type) {
            return kindOf(type) == END ? program.contractAt(firstOf(type)) : null;
        }

        private void send(int message) {
            int load = NO_TYPE;
            int end = pop();
            if (!isSender(end, message) || loadOf(end, message) != NO_TYPE) {
                load = end;
                end = pop();
                require(isSender(end, message) && load != NO_TYPE && loadOf(end, message) == load);
            }
            push(endBehind(end, message));
        }

        private boolean isSender(int type, int message) {
            Contract contract = contractOf(type);
            return contract != null && contract.isTurnOf(stateOf(type), sideOf(type))
                && contract.isMessage(stateOf(type), message);
        }

        private int loadOf(int type, int message) {
            Contract contract = contractOf(type);
            return contract == null ? NO_TYPE : contract.loadOf(stateOf(type), message);
        }

        private int endBehind(int type, int message) {
            Contract contract = contractOf(type);
            int next = contract == null ? 0 : contract.nextOf(stateOf(type), message);
            return endType(firstOf(type), next, sideOf(type));
        }

        private void receive(int count, int targets) {
            goesOn = false;
            int end = pop();
            Contract contract = contractOf(end);
            if (contract == null || !contract.isTurnOf(stateOf(end), 1 - sideOf(end))
                || contract.messageCount(stateOf(end)) != count) {
                wrong = true;
                return;
            }
            int below = height;
            for (int t = 0; t < count && t < MOST_MESSAGES && !wrong; t++) {
                height = below;
                push(endBehind(end, t));
                if (loadOf(end, t) != NO_TYPE) {
                    push(loadOf(end, t));
                }
                if (!wrong) {
                    flowTo(program.byteAt(targets + t));
                }
            }
        }

        private void useOthers(int op, int operand) {
            switch (op) {
                case OP_CHANNEL:
                    push(endType(operand, 0, 0));
                    push(endType(operand, 0, 1));
                    break;
                case OP_CLOSE:
                    int end = pop();
                    Contract contract = contractOf(end);
                    require(contract != null && contract.isNobodys(stateOf(end)));
                    break;
                case OP_CALL:
                case OP_SPAWN:
                    callRoutine(program.routineAt(operand), op == OP_SPAWN);
                    break;
                case OP_RETURN:
                    leave();
                    break;
                case OP_EXIT:
                    goesOn = false;
                    break;
                case OP_OUT:
                    popInt();
                    break;
                default:
                    break;
            }
        }

        private void callRoutine(Routine called, boolean spawned) {
            if (called == null) {
                wrong = true;
                return;
            }
            for (int i = called.paramCount - 1; i >= 0; i--) {
                require(fits(pop(), called.paramType(i)));
                require(!spawned || !isPointer(called.paramType(i)));
            }
            if (called.result != NO_TYPE) {
                require(!spawned);
                push(called.result);
            }
        }

        private void leave() {
            goesOn = false;
            if (routine.result != NO_TYPE) {
                require(fits(pop(), routine.result));
            }
            require(height == 0);
            for (int i = 0; i < MOST_LOCALS; i++) {
                require(!isLinear(locals[i]));
            }
        }

        private static boolean fits(int type, int wanted) {
            return wanted != NO_TYPE && (type == wanted || type == NIL && isPointer(wanted));
        }

        private void require(boolean right) {
            if (!right) {
                wrong = true;
            }
        }

        private void push(int type) {
            if (height < 0 || height >= MOST_STACK) {
                wrong = true;
                return;
            }
            stack[height] = type;
            height++;
        }

        private int pop() {
            if (height <= 0 || height > MOST_STACK) {
                wrong = true;
                return INT;
            }
            height--;
            return stack[height];
        }

        private void popInt() {
            require(pop() == INT);
        }

        private int popUnowned() {
            int type = pop();
            require(!isLinear(type));
            return type;
        }
    }

    /** Reads a manifest's bytes: what is to be booted. */
    private static final class Manifest {
        int faultKind;
        int faultPlace;
        int taskCount;
        final Program[] programs = new Program[MOST_BOOTED];
        final int[] shelfPlaces = new int[MOST_BOOTED];
        final int[] routines = new int[MOST_BOOTED];
        final int[] heapSizes = new int[MOST_BOOTED];
        // An INT itself, or the number that an end was given.
        final int[] arguments = new int[MOST_BOOTED * MOST_PARAMETERS];
        int channelCount;
        // By the order of the numbers' first uses, as are the channels.
        final Contract[] contracts = new Contract[MOST_NUMBERS];
        final int[] channels = new int[MOST_NUMBERS];

        private final int[] uses = new int[MOST_NUMBERS];
        private final Program[] usePrograms = new Program[MOST_NUMBERS];
        private final int[] useTypes = new int[MOST_NUMBERS];
        private final int[] pairs = new int[MOST_CONTRACTS * MOST_CONTRACTS];
        private int[] bytes = new int[0];
        private int length;
        private int at;

        void read(int[] tape, int n, Program[] shelf) {
            bytes = tape;
            length = Math.max(0, Math.min(n, tape.length));
            at = 0;
            faultKind = FAULT_NONE;
            faultPlace = NONE;
            channelCount = 0;
            Arrays.fill(uses, 0);
            readNumber(83, 83);
            readNumber(70, 70);
            taskCount = readNumber(1, MOST_BOOTED);
            for (int p = 0; p < taskCount && p < MOST_BOOTED && isGood(); p++) {
                readTask(p, shelf);
            }
            if (at < length) {
                fail(FAULT_FORM, at);
            }
            for (int number = 0; number < MOST_NUMBERS; number++) {
                if (uses[number] == 1) {
                    fail(FAULT_LONE_END, length);
                }
            }
        }

        private boolean isGood() {
            return faultKind == FAULT_NONE;
        }

        // Only the first fault counts: it is the leftmost, since all is read from the left.
        private void fail(int kind, int place) {
            if (isGood()) {
                faultKind = kind;
                faultPlace = place;
            }
        }

        private int readNumber(int least, int most) {
            if (!isGood() || at < 0 || at >= length || at >= bytes.length) {
                fail(FAULT_FORM, at);
                return least;
            }
            int number = bytes[at];
            if (number < least || number > most) {
                fail(FAULT_FORM, at);
                return least;
            }
            at++;
            return number;
        }

        private void readTask(int p, Program[] shelf) {
            int m = readNumber(0, 255);
            Program program = m >= 0 && m < shelf.length ? shelf[m] : null;
            if (program == null) {
                fail(FAULT_MODULE, at - 1);
            }
            int f = readNumber(0, 255);
            Routine routine = program == null ? null : program.routineAt(f);
            if (!isBootable(routine)) {
                fail(FAULT_FUNCTION, at - 1);
            }
            int size = readNumber(1, 64);
            if (!isGood() || routine == null || p < 0 || p >= MOST_BOOTED) {
                return;
            }
            programs[p] = program;
            shelfPlaces[p] = m;
            routines[p] = f;
            heapSizes[p] = 16 * size;
            for (int i = 0; i < routine.paramCount && i < MOST_PARAMETERS && isGood(); i++) {
                int type = routine.paramType(i);
                arguments[p * MOST_PARAMETERS + i] = type == INT ? readWord() : readEnd(program, type);
            }
        }

        private static boolean isBootable(Routine routine) {
            if (routine == null || routine.result != NO_TYPE) {
                return false;
            }
            for (int i = 0; i < routine.paramCount; i++) {
                int type = routine.paramType(i);
                if (type != INT && (kindOf(type) != END || stateOf(type) != 0)) {
                    return false;
                }
            }
            return true;
        }

        private int readWord() {
            int word = 0;
            for (int i = 0; i < 4; i++) {
                word = word << 8 | readNumber(0, 255);
            }
            return word;
        }

        private int readEnd(Program program, int type) {
            int number = readNumber(0, MOST_NUMBERS - 1);
            if (!isGood() || number < 0 || number >= MOST_NUMBERS) {
                return 0;
            }
            if (uses[number] == 0) {
                noteFirstUse(number, program, type);
            } else if (uses[number] == 2 || sideOf(useTypes[number]) == sideOf(type)
                || !isAlike(usePrograms[number], firstOf(useTypes[number]), program, firstOf(type))) {
                fail(FAULT_END, at - 1);
            }
            uses[number]++;
            return number;
        }

        private void noteFirstUse(int number, Program program, int type) {
            if (number < 0 || number >= MOST_NUMBERS || channelCount >= MOST_NUMBERS || program == null) {
                return;
            }
            usePrograms[number] = program;
            useTypes[number] = type;
            channels[number] = channelCount;
            contracts[channelCount] = program.contractAt(firstOf(type));
            channelCount++;
        }

        int channelOf(int number) {
            return number >= 0 && number < MOST_NUMBERS ? channels[number] : 0;
        }

        // Two contracts may name one another, so each pair that is met is looked at just once.
        private boolean isAlike(Program a, int first, Program b, int second) {
            if (a == null || b == null) {
                return false;
            }
            Arrays.fill(pairs, 0);
            notePair(first, second);
            for (int round = 0; round < MOST_CONTRACTS * MOST_CONTRACTS; round++) {
                for (int pair = 0; pair < MOST_CONTRACTS * MOST_CONTRACTS; pair++) {
                    if (pairs[pair] == 1) {
                        pairs[pair] = 2;
                        if (!hasSameForm(a, pair / MOST_CONTRACTS, b, pair % MOST_CONTRACTS)) {
                            return false;
                        }
                    }
                }
            }
            return true;
        }

        private void notePair(int first, int second) {
            if (first < 0 || first >= MOST_CONTRACTS || second < 0 || second >= MOST_CONTRACTS) {
                return;
            }
            int pair = first * MOST_CONTRACTS + second;
            if (pairs[pair] == 0) {
                pairs[pair] = 1;
            }
        }

        private boolean hasSameForm(Program a, int first, Program b, int second) {
            Contract x = a.contractAt(first);
            Contract y = b.contractAt(second);
            if (x == null || y == null || x.stateCount != y.stateCount) {
                return false;
            }
            for (int s = 0; s < x.stateCount && s < MOST_STATES; s++) {
                if (x.turns[s] != y.turns[s] || x.messageCount(s) != y.messageCount(s)) {
                    return false;
                }
                for (int t = 0; t < x.messageCount(s); t++) {
                    if (x.nextOf(s, t) != y.nextOf(s, t) || !isLoadAlike(a, x.loadOf(s, t), b, y.loadOf(s, t))) {
                        return false;
                    }
                }
            }
            return true;
        }

        private boolean isLoadAlike(Program a, int x, Program b, int y) {
            if (x == NO_TYPE || y == NO_TYPE || kindOf(x) != kindOf(y)) {
                return x == y;
            }
            if (kindOf(x) == BLOCK) {
                return a.fieldCount(firstOf(x)) == b.fieldCount(firstOf(y));
            }
            if (kindOf(x) == END) {
                notePair(firstOf(x), firstOf(y));
                return stateOf(x) == stateOf(y) && sideOf(x) == sideOf(y);
            }
            return true;
        }
    }

    /** A process's nodes and rows: a pointer is 0 for NIL, else 1 and the place of the first cell. */
    private static final class Heap {
        // The first cell, the head, tells how many items follow and which of them point.
        private static final int LENGTH_MASK = 4095;
        private static final int ALL_POINT = 1 << 12;
        private static final int MASK_SHIFT = 16;

        int limit;
        int used;
        private int moved;
        private final int[] cells = new int[MOST_HEAP_CELLS];
        // What is reached moves here and then back; all heaps share it.
        private final int[] spare;

        Heap(int[] spare) {
            this.spare = spare;
        }

        void clear(int cellCount) {
            limit = Math.max(0, Math.min(cellCount, MOST_HEAP_CELLS));
            used = 0;
        }

        static int nodeHead(int fields, int pointerMask) {
            return fields | pointerMask << MASK_SHIFT;
        }

        static int rowHead(int items, boolean ofNodes) {
            return ofNodes ? items | ALL_POINT : items;
        }

        boolean hasRoom(int items) {
            return items >= 0 && items < limit - used;
        }

        /** A pointer to the new one, all 0 and NIL; there must be room. */
        int make(int head) {
            int items = head & LENGTH_MASK;
            if (used < 0 || used + items >= MOST_HEAP_CELLS) {
                return 0;
            }
            int first = used;
            used += items + 1;
            Arrays.fill(cells, first, used, 0);
            cells[first] = head;
            return first + 1;
        }

        int headOf(int pointer) {
            return pointer > 0 && pointer <= MOST_HEAP_CELLS ? cells[pointer - 1] : 0;
        }

        int lengthOf(int pointer) {
            return headOf(pointer) & LENGTH_MASK;
        }

        static boolean points(int head, int i) {
            return (head & ALL_POINT) != 0 || i >= 0 && i < MOST_FIELDS && (head >> MASK_SHIFT >> i & 1) != 0;
        }

        int itemAt(int pointer, int i) {
            int cell = pointer + i;
            return cell >= 0 && cell < MOST_HEAP_CELLS ? cells[cell] : 0;
        }

        void setItem(int pointer, int i, int item) {
            int cell = pointer + i;
            if (cell >= 0 && cell < MOST_HEAP_CELLS) {
                cells[cell] = item;
            }
        }

        void beginMoving() {
            moved = 0;
        }

        /** Where that node or row is then: what has moved leaves its new pointer behind, as a negative head. */
        int move(int pointer) {
            int from = pointer - 1;
            if (from < 0 || from >= MOST_HEAP_CELLS) {
                return 0;
            }
            int head = cells[from];
            if (head < 0) {
                return -head;
            }
            int size = (head & LENGTH_MASK) + 1;
            if (from + size > MOST_HEAP_CELLS || moved < 0 || moved + size > spare.length) {
                return 0;
            }
            System.arraycopy(cells, from, spare, moved, size);
            cells[from] = -(moved + 1);
            moved += size;
            return moved - size + 1;
        }

        /** Moves what the moved ones reach in their turn, and all of it back. */
        void endMoving() {
            int scan = 0;
            for (int count = 0; count < MOST_HEAP_CELLS && scan < moved && scan < spare.length; count++) {
                int head = spare[scan];
                int end = Math.min(scan + 1 + (head & LENGTH_MASK), spare.length);
                for (int cell = scan + 1; cell < end; cell++) {
                    if (points(head, cell - scan - 1)) {
                        spare[cell] = move(spare[cell]);
                    }
                }
                scan = end;
            }
            used = Math.max(0, Math.min(moved, Math.min(spare.length, MOST_HEAP_CELLS)));
            System.arraycopy(spare, 0, cells, 0, used);
        }
    }

    /** A process: its activations, each a frame of locals and a stack above them, and its heap. */
    private static final class Task {
        private static final int SLOTS = MOST_ACTIVATIONS * FRAME;

        final int number;
        final Heap heap;
        int status = STATUS_NEVER;
        int trap;
        int steps;
        int shelfPlace;
        Program program = new Program(new int[0]);
        int depth;
        // Of the latest activation; those of the others stand in the rows.
        int routine;
        int codeStart;
        int place;
        int height;
        private final int[] routines = new int[MOST_ACTIVATIONS];
        private final int[] places = new int[MOST_ACTIVATIONS];
        private final int[] heights = new int[MOST_ACTIVATIONS];
        // A tag is INT, NODE (for whatever may point), BLOCK, END or EMPTY.
        private final int[] tags = new int[SLOTS];
        private final int[] values = new int[SLOTS];

        Task(int number, int[] spare) {
            this.number = number;
            heap = new Heap(spare);
        }

        void begin(Program begun, int onShelf, int first, int cellCount) {
            status = STATUS_GOES_ON;
            trap = 0;
            steps = 0;
            program = begun;
            shelfPlace = onShelf;
            heap.clear(cellCount);
            depth = 0;
            height = 0;
            enter(first, 0);
        }

        void end(int trapNumber) {
            status = trapNumber == 0 ? STATUS_OVER : STATUS_TRAPPED;
            trap = trapNumber;
            depth = 0;
        }

        boolean isGoing() {
            return status == STATUS_GOES_ON || status == STATUS_RECEIVES || status == STATUS_SENDS;
        }

        // Always a place in the rows.
        private int slot(int i) {
            int slot = (depth - 1) * FRAME + i;
            return slot >= 0 && slot < SLOTS ? slot : 0;
        }

        /** A new activation: the highest values become its parameters. */
        void enter(int entered, int params) {
            if (depth < 0 || depth >= MOST_ACTIVATIONS) {
                return;
            }
            height = Math.max(0, height - params);
            int given = slot(MOST_LOCALS + height);
            keep();
            depth++;
            for (int i = 0; i < MOST_LOCALS; i++) {
                boolean isGiven = i < params && given + i < SLOTS;
                tags[slot(i)] = isGiven ? tags[given + i] : EMPTY;
                values[slot(i)] = isGiven ? values[given + i] : 0;
            }
            turnTo(entered);
            place = 0;
            height = 0;
        }

        private void turnTo(int turned) {
            Routine now = program.routineAt(turned);
            routine = turned;
            codeStart = now == null ? 0 : now.codeStart;
        }

        private void keep() {
            if (depth > 0 && depth <= MOST_ACTIVATIONS) {
                routines[depth - 1] = routine;
                places[depth - 1] = place;
                heights[depth - 1] = height;
            }
        }

        void leave() {
            if (depth > 1 && depth <= MOST_ACTIVATIONS) {
                depth--;
                turnTo(routines[depth - 1]);
                place = places[depth - 1];
                height = heights[depth - 1];
            }
        }

        int tagBelow(int below) {
            return tags[slot(MOST_LOCALS + height - 1 - below)];
        }

        int valueBelow(int below) {
            return values[slot(MOST_LOCALS + height - 1 - below)];
        }

        int pop() {
            height = Math.max(0, height - 1);
            return values[slot(MOST_LOCALS + height)];
        }

        void push(int tag, int value) {
            if (height < MOST_STACK) {
                int slot = slot(MOST_LOCALS + height);
                tags[slot] = tag;
                values[slot] = value;
                height++;
            }
        }

        int localTag(int l) {
            return tags[slot(l)];
        }

        int localValue(int l) {
            return values[slot(l)];
        }

        void setLocal(int l, int tag, int value) {
            int slot = slot(l);
            tags[slot] = tag;
            values[slot] = value;
        }

        int shown(int i) {
            int slot = slot(i);
            if (tags[slot] == NODE) {
                return values[slot] == 0 ? 0 : 1;
            }
            return tags[slot] == EMPTY ? 0 : values[slot];
        }

        int aboutActivation(int what) {
            if (depth == 0) {
                return 0;
            }
            switch (what) {
                case 3:
                    return routine;
                case 4:
                    return place;
                case 5:
                    return depth;
                case 6:
                    return height;
                default:
                    collect();
                    return heap.used;
            }
        }

        /** Leaves in the heap just what the activations reach. */
        void collect() {
            keep();
            heap.beginMoving();
            for (int a = 0; a < depth && a < MOST_ACTIVATIONS; a++) {
                int end = Math.min(a * FRAME + MOST_LOCALS + heights[a], SLOTS);
                for (int slot = a * FRAME; slot < end; slot++) {
                    if (tags[slot] == NODE) {
                        values[slot] = heap.move(values[slot]);
                    }
                }
            }
            heap.endMoving();
        }
    }

    /** What has one owner: blocks, and the ends of channels with the messages that wait for them. */
    private static final class Goods {
        // Owns for a moment what is to go.
        private static final int LEAVING_OWNER = -2;

        int blockCells;
        // 0 fields: there is no such block.
        final int[] blockSizes = new int[MOST_BLOCKS];
        final int[] blockOwners = new int[MOST_BLOCKS];
        private final int[] blockFields = new int[MOST_BLOCKS * MOST_FIELDS];
        // Null: the channel is free.
        private final Contract[] contracts = new Contract[MOST_CHANNELS];
        // An end is twice its channel and the side; NONE owns a closed one.
        final int[] endStates = new int[MOST_ENDS];
        final int[] endOwners = new int[MOST_ENDS];
        final int[] endWaiting = new int[MOST_ENDS];
        private final int[] messages = new int[MOST_ENDS * MOST_WAITING];
        private final int[] loadTags = new int[MOST_ENDS * MOST_WAITING];
        private final int[] loadValues = new int[MOST_ENDS * MOST_WAITING];
        private final int[] leaving = new int[MOST_ENDS + 1];

        void clear() {
            blockCells = 0;
            Arrays.fill(blockSizes, 0);
            Arrays.fill(endOwners, NONE);
            Arrays.fill(endWaiting, 0);
            for (int c = 0; c < MOST_CHANNELS; c++) {
                contracts[c] = null;
            }
        }

        boolean isBlock(int b) {
            return b >= 0 && b < MOST_BLOCKS && blockSizes[b] > 0;
        }

        int countBlocks() {
            int count = 0;
            for (int b = 0; b < MOST_BLOCKS; b++) {
                if (blockSizes[b] > 0) {
                    count++;
                }
            }
            return count;
        }

        int countChannels() {
            int count = 0;
            for (int c = 0; c < MOST_CHANNELS; c++) {
                if (contracts[c] != null) {
                    count++;
                }
            }
            return count;
        }

        /** The new block, or NONE when there is no room. */
        int makeBlock(int fields, int owner) {
            if (fields < 1 || fields > MOST_FIELDS || blockCells + fields + 1 > MOST_BLOCK_CELLS) {
                return NONE;
            }
            for (int b = 0; b < MOST_BLOCKS; b++) {
                if (blockSizes[b] == 0) {
                    blockSizes[b] = fields;
                    blockOwners[b] = owner;
                    blockCells += fields + 1;
                    Arrays.fill(blockFields, b * MOST_FIELDS, (b + 1) * MOST_FIELDS, 0);
                    return b;
                }
            }
            return NONE;
        }

        void freeBlock(int b) {
            if (b >= 0 && b < MOST_BLOCKS && blockSizes[b] > 0) {
                blockCells -= blockSizes[b] + 1;
                blockSizes[b] = 0;
            }
        }

        int blockField(int b, int f) {
            return isBlock(b) && f >= 0 && f < MOST_FIELDS ? blockFields[b * MOST_FIELDS + f] : 0;
        }

        void setBlockField(int b, int f, int field) {
            if (isBlock(b) && f >= 0 && f < MOST_FIELDS) {
                blockFields[b * MOST_FIELDS + f] = field;
            }
        }

        /** The new channel, or NONE when there are too many. */
        int makeChannel(Contract contract, int owner) {
            for (int c = 0; c < MOST_CHANNELS && contract != null; c++) {
                if (contracts[c] == null) {
                    contracts[c] = contract;
                    for (int end = 2 * c; end <= 2 * c + 1; end++) {
                        endStates[end] = 0;
                        endOwners[end] = owner;
                        endWaiting[end] = 0;
                    }
                    return c;
                }
            }
            return NONE;
        }

        boolean isOpen(int end) {
            return end >= 0 && end < MOST_ENDS && endOwners[end] != NONE;
        }

        boolean isWaitedFor(int end) {
            return end >= 0 && end < MOST_ENDS && endWaiting[end] > 0;
        }

        boolean isFull(int end) {
            return end >= 0 && end < MOST_ENDS && endWaiting[end] >= MOST_WAITING;
        }

        /** Whether this is an end whose turn it is, with such a message that has no load. */
        boolean isLoneSender(int tag, int end, int message) {
            Contract contract = tag == END && isOpen(end) ? contracts[end / 2] : null;
            return contract != null && contract.isTurnOf(endStates[end], end % 2)
                && contract.isMessage(endStates[end], message)
                && contract.loadOf(endStates[end], message) == NO_TYPE;
        }

        void give(int tag, int thing, int owner) {
            if (tag == BLOCK && isBlock(thing)) {
                blockOwners[thing] = owner;
            } else if (tag == END && isOpen(thing)) {
                endOwners[thing] = owner;
            }
        }

        /** The end goes to the state behind the message. */
        void goBehind(int end, int message) {
            Contract contract = isOpen(end) ? contracts[end / 2] : null;
            if (contract != null) {
                endStates[end] = contract.nextOf(endStates[end], message);
            }
        }

        void deliver(int end, int message, int tag, int load) {
            if (!isOpen(end)) {
                drop(tag, load);
            } else if (endWaiting[end] >= 0 && endWaiting[end] < MOST_WAITING) {
                int last = end * MOST_WAITING + endWaiting[end];
                messages[last] = message;
                loadTags[last] = tag;
                loadValues[last] = load;
                endWaiting[end]++;
                give(tag, load, WAITING_OWNER + end);
            }
        }

        int firstMessage(int end) {
            return isWaitedFor(end) ? messages[end * MOST_WAITING] : 0;
        }

        int firstLoadTag(int end) {
            return isWaitedFor(end) ? loadTags[end * MOST_WAITING] : EMPTY;
        }

        int firstLoad(int end) {
            return isWaitedFor(end) ? loadValues[end * MOST_WAITING] : 0;
        }

        void removeFirst(int end) {
            if (!isWaitedFor(end)) {
                return;
            }
            for (int i = end * MOST_WAITING; i < end * MOST_WAITING + MOST_WAITING - 1; i++) {
                messages[i] = messages[i + 1];
                loadTags[i] = loadTags[i + 1];
                loadValues[i] = loadValues[i + 1];
            }
            endWaiting[end]--;
        }

        /** A block goes, or an end is closed. */
        void drop(int tag, int thing) {
            if (tag == BLOCK) {
                freeBlock(thing);
            } else if (tag == END) {
                give(END, thing, LEAVING_OWNER);
                leave(LEAVING_OWNER);
            }
        }

        /** All that the owner has goes; a closed end was itself the owner of what waited for it. */
        void leave(int owner) {
            leaving[0] = owner;
            int count = 1;
            for (int i = 0; i < count && i < leaving.length; i++) {
                for (int b = 0; b < MOST_BLOCKS; b++) {
                    if (blockSizes[b] > 0 && blockOwners[b] == leaving[i]) {
                        freeBlock(b);
                    }
                }
                for (int end = 0; end < MOST_ENDS; end++) {
                    if (endOwners[end] == leaving[i] && count < leaving.length) {
                        shut(end);
                        leaving[count] = WAITING_OWNER + end;
                        count++;
                    }
                }
            }
        }

        private void shut(int end) {
            if (end >= 0 && end < MOST_ENDS) {
                endOwners[end] = NONE;
                endWaiting[end] = 0;
                if (endOwners[end ^ 1] == NONE) {
                    contracts[end / 2] = null;
                }
            }
        }
    }

    /** All that runs: the processes, what they own, and what they put out. */
    private static final class Machine {
        boolean booted;
        int steps;
        // Whose turn it is, and how many steps of it are done.
        int current;
        int turnSteps;
        final Goods goods = new Goods();
        int outCount;
        final int[] outTasks = new int[MOST_OUTS];
        final int[] outValues = new int[MOST_OUTS];
        private final Task[] tasks = new Task[MOST_TASKS];

        Machine() {
            int[] spare = new int[MOST_HEAP_CELLS];
            for (int p = 0; p < MOST_TASKS; p++) {
                tasks[p] = new Task(p, spare);
            }
            goods.clear();
        }

        Task taskAt(int p) {
            return p >= 0 && p < MOST_TASKS ? tasks[p] : null;
        }

        void start(Manifest manifest) {
            booted = true;
            steps = 0;
            current = 0;
            turnSteps = 0;
            outCount = 0;
            goods.clear();
            for (int p = 0; p < MOST_TASKS; p++) {
                if (tasks[p] != null) {
                    tasks[p].end(0);
                    tasks[p].status = STATUS_NEVER;
                }
            }
            for (int c = 0; c < manifest.channelCount && c < MOST_NUMBERS; c++) {
                goods.makeChannel(manifest.contracts[c], 0);
            }
            for (int p = 0; p < manifest.taskCount && p < MOST_BOOTED; p++) {
                startTask(manifest, p, tasks[p]);
            }
        }

        private void startTask(Manifest manifest, int p, Task task) {
            Program program = p >= 0 && p < MOST_BOOTED ? manifest.programs[p] : null;
            Routine routine = program == null ? null : program.routineAt(manifest.routines[p]);
            if (routine == null || task == null) {
                return;
            }
            task.begin(program, manifest.shelfPlaces[p], manifest.routines[p], manifest.heapSizes[p]);
            for (int i = 0; i < routine.paramCount && i < MOST_PARAMETERS; i++) {
                int argument = manifest.arguments[p * MOST_PARAMETERS + i];
                int type = routine.paramType(i);
                if (type == INT) {
                    task.setLocal(i, INT, argument);
                } else {
                    int end = 2 * manifest.channelOf(argument) + sideOf(type);
                    task.setLocal(i, END, end);
                    goods.give(END, end, p);
                }
            }
        }

        int countGoing() {
            int count = 0;
            for (int p = 0; p < MOST_TASKS; p++) {
                if (tasks[p] != null && tasks[p].isGoing()) {
                    count++;
                }
            }
            return count;
        }

        /** Where a spawned process may be, or null when there are too many. */
        Task freeTask() {
            for (int p = 0; p < MOST_TASKS; p++) {
                if (tasks[p] != null && !tasks[p].isGoing()) {
                    return tasks[p];
                }
            }
            return null;
        }

        void finish(Task task, int trap) {
            task.end(trap);
            goods.leave(task.number);
        }

        boolean putOut(int number, int given) {
            if (outCount < 0 || outCount >= MOST_OUTS) {
                return false;
            }
            outTasks[outCount] = number;
            outValues[outCount] = given;
            outCount++;
            return true;
        }

        void endTurn() {
            turnSteps = 0;
            current = current + 1 < MOST_TASKS ? current + 1 : 0;
        }
    }

    /** Takes the processes' turns and does their instructions. */
    private static final class Engine {
        // Before each step all the others may be looked at in vain, and at the end each once more.
        private static final int MOST_LOOKS = (MOST_RUN + 1) * (MOST_TASKS + 1);

        private final Machine machine;
        private final Goods goods;

        Engine(Machine machine) {
            this.machine = machine;
            goods = machine.goods;
        }

        int advance(int n) {
            int done = 0;
            int inVain = 0;
            for (int look = 0; look < MOST_LOOKS && done < n && inVain < MOST_TASKS; look++) {
                Task task = machine.taskAt(machine.current);
                if (task != null && findsReady(task)) {
                    int op = operationOf(task);
                    step(task, op);
                    done++;
                    inVain = 0;
                    if (op == OP_YIELD || machine.turnSteps >= TURN_STEPS || !task.isGoing()) {
                        machine.endTurn();
                    }
                } else {
                    inVain++;
                    machine.endTurn();
                }
            }
            return done;
        }

        boolean isStill() {
            for (int p = 0; p < MOST_TASKS; p++) {
                Task task = machine.taskAt(p);
                if (task != null && task.isGoing() && waitOf(task) == STATUS_GOES_ON) {
                    return false;
                }
            }
            return true;
        }

        private boolean findsReady(Task task) {
            if (!task.isGoing()) {
                return false;
            }
            task.status = waitOf(task);
            return task.status == STATUS_GOES_ON;
        }

        private static int operationOf(Task task) {
            return task.program.byteAt(task.codeStart + task.place);
        }

        private int waitOf(Task task) {
            int op = operationOf(task);
            if (op == OP_RECEIVE) {
                return goods.isWaitedFor(task.valueBelow(0)) ? STATUS_GOES_ON : STATUS_RECEIVES;
            }
            if (op == OP_SEND) {
                int message = task.program.byteAt(task.codeStart + task.place + 1);
                int end = task.valueBelow(sendsAlone(task, message) ? 0 : 1);
                return goods.isFull(end ^ 1) ? STATUS_SENDS : STATUS_GOES_ON;
            }
            return STATUS_GOES_ON;
        }

        private boolean sendsAlone(Task task, int message) {
            return goods.isLoneSender(task.tagBelow(0), task.valueBelow(0), message);
        }

        private void step(Task task, int op) {
            machine.steps++;
            machine.turnSteps++;
            task.steps++;
            int behind = task.codeStart + task.place + 1;
            int operand = task.program.byteAt(behind);
            task.place += instructionLength(op, operand);
            int trap = 0;
            if (op == OP_PUSH) {
                task.push(INT, task.program.wordAt(behind));
            } else if (op <= OP_SWAP) {
                moveValues(task, op, operand);
            } else if (op <= OP_SAME) {
                trap = calculate(task, op);
            } else if (op <= OP_ZERO) {
                branch(task, op, operand);
            } else if (op == OP_NEW || op == OP_ROW || op == OP_ROWS) {
                trap = make(task, op, operand);
            } else if (op <= OP_LAY) {
                trap = useHeap(task, op, operand);
            } else if (op >= OP_BLOCK && op <= OP_FREE) {
                trap = useBlock(task, op, operand);
            } else if (op == OP_SEND) {
                send(task, operand);
            } else if (op == OP_RECEIVE) {
                receive(task, behind + 1);
            } else if (op == OP_SPAWN) {
                trap = spawn(task, operand);
            } else {
                trap = useOthers(task, op, operand);
            }
            if (trap != 0) {
                machine.finish(task, trap);
            }
        }

        private static void moveValues(Task task, int op, int operand) {
            int tag = task.tagBelow(0);
            switch (op) {
                case OP_NIL:
                    task.push(NODE, 0);
                    break;
                case OP_LOAD:
                    int localTag = task.localTag(operand);
                    task.push(localTag, task.localValue(operand));
                    if (isLinear(localTag)) {
                        task.setLocal(operand, EMPTY, 0);
                    }
                    break;
                case OP_STORE:
                    task.setLocal(operand, tag, task.pop());
                    break;
                case OP_POP:
                    task.pop();
                    break;
                case OP_DUP:
                    task.push(tag, task.valueBelow(0));
                    break;
                default:
                    int lowerTag = task.tagBelow(1);
                    int upper = task.pop();
                    int lower = task.pop();
                    task.push(tag, upper);
                    task.push(lowerTag, lower);
                    break;
            }
        }

        private static int calculate(Task task, int op) {
            int b = task.pop();
            int a = task.pop();
            if (b == 0 && (op == OP_DIV || op == OP_REM)) {
                return TRAP_DIVISOR;
            }
            task.push(INT, op <= OP_REM ? reckon(op, a, b) : combine(op, a, b));
            return 0;
        }

        private static int reckon(int op, int a, int b) {
            switch (op) {
                case OP_ADD:
                    return a + b;
                case OP_SUB:
                    return a - b;
                case OP_MUL:
                    return a * b;
                case OP_DIV:
                    return b == 0 ? 0 : a / b;
                default:
                    return b == 0 ? 0 : a % b;
            }
        }

        private static int combine(int op, int a, int b) {
            switch (op) {
                case OP_AND:
                    return a & b;
                case OP_OR:
                    return a | b;
                case OP_XOR:
                    return a ^ b;
                case OP_SHL:
                    return a << (b & 31);
                case OP_SHR:
                    return a >> (b & 31);
                case OP_LESS:
                    return a < b ? 1 : 0;
                default:
                    return a == b ? 1 : 0;
            }
        }

        private static void branch(Task task, int op, int target) {
            if (op == OP_NONE) {
                task.push(INT, task.pop() == 0 ? 1 : 0);
            } else if (op == OP_JUMP || task.pop() == 0) {
                task.place = target;
            }
        }

        // What is not reached takes no room: it is swept away when the room is needed.
        private static int make(Task task, int op, int record) {
            Heap heap = task.heap;
            int items = op == OP_NEW ? task.program.fieldCount(record) : task.pop();
            if (items < 0) {
                return TRAP_LENGTH;
            }
            if (!heap.hasRoom(items)) {
                task.collect();
            }
            if (!heap.hasRoom(items)) {
                return TRAP_HEAP;
            }
            boolean isNode = op == OP_NEW;
            int head = isNode ? Heap.nodeHead(items, task.program.pointerMask(record))
                : Heap.rowHead(items, op == OP_ROWS);
            task.push(NODE, heap.make(head));
            return 0;
        }

        private static int useHeap(Task task, int op, int field) {
            boolean gives = op == OP_PUT || op == OP_LAY;
            boolean indexed = op == OP_TAKE || op == OP_LAY;
            int given = gives ? task.pop() : 0;
            int i = indexed ? task.pop() : field;
            int pointer = task.pop();
            if (pointer == 0) {
                return TRAP_NIL;
            }
            if (op == OP_LENGTH) {
                task.push(INT, task.heap.lengthOf(pointer));
                return 0;
            }
            if (i < 0 || i >= task.heap.lengthOf(pointer)) {
                return TRAP_INDEX;
            }
            if (gives) {
                task.heap.setItem(pointer, i, given);
            } else {
                boolean points = Heap.points(task.heap.headOf(pointer), i);
                task.push(points ? NODE : INT, task.heap.itemAt(pointer, i));
            }
            return 0;
        }

        private int useBlock(Task task, int op, int operand) {
            switch (op) {
                case OP_BLOCK:
                    int made = goods.makeBlock(task.program.fieldCount(operand), task.number);
                    if (made == NONE) {
                        return TRAP_BLOCK;
                    }
                    task.push(BLOCK, made);
                    return 0;
                case OP_SEE:
                    task.push(INT, goods.blockField(task.valueBelow(0), operand));
                    return 0;
                case OP_SET:
                    int field = task.pop();
                    goods.setBlockField(task.valueBelow(0), operand, field);
                    return 0;
                default:
                    goods.freeBlock(task.pop());
                    return 0;
            }
        }

        private int openChannel(Task task, Contract contract) {
            int made = goods.makeChannel(contract, task.number);
            if (made == NONE) {
                return TRAP_CHANNEL;
            }
            task.push(END, 2 * made);
            task.push(END, 2 * made + 1);
            return 0;
        }

        private void send(Task task, int message) {
            int tag = EMPTY;
            int load = 0;
            if (!sendsAlone(task, message)) {
                tag = task.tagBelow(0);
                load = task.pop();
            }
            int end = task.valueBelow(0);
            goods.goBehind(end, message);
            goods.deliver(end ^ 1, message, tag, load);
        }

        private void receive(Task task, int targets) {
            int end = task.valueBelow(0);
            int message = goods.firstMessage(end);
            int tag = goods.firstLoadTag(end);
            int load = goods.firstLoad(end);
            goods.removeFirst(end);
            goods.goBehind(end, message);
            if (tag != EMPTY) {
                goods.give(tag, load, task.number);
                task.push(tag, load);
            }
            task.place = task.program.byteAt(targets + message);
        }

        private int useOthers(Task task, int op, int operand) {
            switch (op) {
                case OP_CHANNEL:
                    return openChannel(task, task.program.contractAt(operand));
                case OP_CLOSE:
                    goods.drop(END, task.pop());
                    return 0;
                case OP_CALL:
                    Routine called = task.program.routineAt(operand);
                    if (called == null || task.depth >= MOST_ACTIVATIONS) {
                        return TRAP_ACTIVATION;
                    }
                    task.enter(operand, called.paramCount);
                    return 0;
                case OP_RETURN:
                    giveBack(task);
                    return 0;
                case OP_EXIT:
                    machine.finish(task, 0);
                    return 0;
                case OP_OUT:
                    return machine.putOut(task.number, task.pop()) ? 0 : TRAP_OUT;
                default:
                    return 0;
            }
        }

        private void giveBack(Task task) {
            if (task.depth <= 1) {
                machine.finish(task, 0);
                return;
            }
            // Right code leaves just the result.
            boolean hasResult = task.height > 0;
            int tag = task.tagBelow(0);
            int result = task.pop();
            task.leave();
            if (hasResult) {
                task.push(tag, result);
            }
        }

        private int spawn(Task task, int operand) {
            Routine spawned = task.program.routineAt(operand);
            Task child = machine.freeTask();
            if (spawned == null || child == null) {
                return TRAP_PROCESS;
            }
            child.begin(task.program, task.shelfPlace, operand, task.heap.limit);
            for (int i = spawned.paramCount - 1; i >= 0; i--) {
                int tag = task.tagBelow(0);
                int given = task.pop();
                child.setLocal(i, tag, given);
                goods.give(tag, given, child.number);
            }
            return 0;
        }
    }
}
