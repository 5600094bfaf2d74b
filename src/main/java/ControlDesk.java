/** Control registers of a 64-bit processor with three modes, its traps and its interrupts. */
public final class ControlDesk {
    public static final int NONE = -1;
    public static final int DONE = 0, ELSEWHERE = 1, ILLEGAL = 2;
    public static final int WAIT = 0, FENCE = 1;

    private static final int USER_MODE = 0, SUPERVISOR_MODE = 1, MACHINE_MODE = 3;

    private static final int WRITE = 1, SET = 2, CLEAR = 3;

    private static final int HIGHEST_REGISTER = 4095;
    private static final int HIGHEST_CAUSE = 63;
    private static final int HIGHEST_PROCESSOR = 3;

    private static final long SIE = 1L << 1, MIE = 1L << 3, SPIE = 1L << 5, MPIE = 1L << 7, SPP = 1L << 8;
    private static final int MPP_SHIFT = 11;
    private static final long MPP = 3L << MPP_SHIFT, MPP_NEVER = 2L << MPP_SHIFT;
    private static final long FS = 3L << 13;
    private static final long MPRV = 1L << 17, SUM = 1L << 18, MXR = 1L << 19;
    private static final long TVM = 1L << 20, TW = 1L << 21, TSR = 1L << 22;
    private static final long TOP_BIT = 1L << 63;
    private static final long STATUS_FIXED = 10L << 32;
    private static final long SUPERVISOR_STATUS_MASK = SIE | SPIE | SPP | FS | SUM | MXR;
    private static final long STATUS_MASK =
        SUPERVISOR_STATUS_MASK | MIE | MPIE | MPP | MPRV | TVM | TW | TSR;
    private static final long SUPERVISOR_STATUS_SEEN = SUPERVISOR_STATUS_MASK | 1L << 33 | TOP_BIT;

    private static final long SOFTWARE_OF_SUPERVISOR = 1L << 1;
    private static final long OUTSIDE_OF_SUPERVISOR = 1L << 9;
    private static final long EXCEPTIONS_MASK = 46079, SUPERVISOR_INTERRUPTS = 546, ALL_INTERRUPTS = 2730;
    private static final int[] INTERRUPT_ORDER = {11, 3, 7, 9, 1, 5};

    private static final long COUNTS_MASK = 7;
    private static final long VECTORS_ZERO = 2, PLACE_ZERO = 1;
    private static final long EXTENSIONS =
        TOP_BIT | 1L | 1L << 2 | 1L << 3 | 1L << 5 | 1L << 8 | 1L << 12 | 1L << 18 | 1L << 20;

    private static final int R_STATUS = 768, R_SUPERVISOR_STATUS = 256, R_EXTENSIONS = 769;
    private static final int R_DELEGATED_EXCEPTIONS = 770, R_DELEGATED_INTERRUPTS = 771;
    private static final int R_ENABLED = 772, R_SUPERVISOR_ENABLED = 260;
    private static final int R_PENDING = 836, R_SUPERVISOR_PENDING = 324;
    private static final int R_MACHINE_VECTORS = 773, R_MACHINE_COUNTS = 774, R_MACHINE_SCRATCH = 832;
    private static final int R_MACHINE_PLACE = 833, R_MACHINE_CAUSE = 834, R_MACHINE_VALUE = 835;
    private static final int R_SUPERVISOR_VECTORS = 261, R_SUPERVISOR_COUNTS = 262, R_SUPERVISOR_SCRATCH = 320;
    private static final int R_SUPERVISOR_PLACE = 321, R_SUPERVISOR_CAUSE = 322, R_SUPERVISOR_VALUE = 323;
    private static final int R_TABLE = 384, R_CYCLES = 2816, R_INSTRUCTIONS = 2818;
    private static final int R_VENDOR = 3857, R_ARCHITECTURE = 3858, R_IMPLEMENTATION = 3859;
    private static final int R_PROCESSOR = 3860, R_CONFIGURATION = 3861;
    private static final int R_OPEN_CYCLES = 3072, R_OPEN_TIME = 3073, R_OPEN_INSTRUCTIONS = 3074;
    private static final int R_FLOAT_FIRST = 1, R_FLOAT_LAST = 3;
    private static final int R_PROTECTION_0 = 928, R_PROTECTION_2 = 930;
    private static final int R_PROTECTED_FIRST = 944, R_PROTECTED_LAST = 959;

    /** The registers that machine and supervisor each have one of. */
    private static final class Bank {
        private long vectors;
        private long openCounts;
        private long scratch;
        private long resume;
        private long cause;
        private long value;

        private void keepVectors(long number) {
            vectors = number & ~VECTORS_ZERO;
        }

        private void keepResume(long number) {
            resume = number & ~PLACE_ZERO;
        }

        private void remember(boolean interrupt, int newCause, long newValue, long newPlace) {
            keepResume(newPlace);
            cause = interrupt ? newCause | TOP_BIT : newCause;
            value = newValue;
        }

        private long entry(boolean interrupt, int ofCause) {
            long base = vectors & ~3L;
            boolean spread = interrupt && (vectors & 1L) != 0;
            return spread ? base + 4L * ofCause : base;
        }
    }

    private final Bank machineBank = new Bank();
    private final Bank supervisorBank = new Bank();
    private final long processor;
    private int currentMode = MACHINE_MODE;
    private long status;
    private long delegatedExceptions;
    private long delegatedInterrupts;
    private long enabled;
    private long pendingWritten;
    private long lines;
    private long table;
    private long cycleCount;
    private long instructionCount;
    private long clock;
    private long lastHad;
    private long lastPlace;

    public ControlDesk(int number) {
        processor = number >= 0 && number <= HIGHEST_PROCESSOR ? number : 0;
    }

    public int mode() {
        return currentMode;
    }

    public int dataMode() {
        return has(MPRV) ? previousMachineMode() : currentMode;
    }

    public int access(int number, int operation, boolean writes, long operand) throws IllegalArgumentException {
        if (number < 0 || number > HIGHEST_REGISTER) {
            throw new IllegalArgumentException("no register has this number");
        }
        if (operation < WRITE || operation > CLEAR) {
            throw new IllegalArgumentException("no such operation");
        }
        if (isIllegal(number, writes)) {
            return ILLEGAL;
        }
        if (isElsewhere(number)) {
            if (writes && isFloat(number)) {
                status |= FS;
            }
            return ELSEWHERE;
        }
        long before = shown(number);
        if (writes) {
            store(number, combined(operation, changeable(number, before), operand));
        }
        lastHad = before;
        return DONE;
    }

    public long had() {
        return lastHad;
    }

    public long peek(int number) {
        return shown(number);
    }

    public long trap(boolean interrupt, int cause, long value, long place) throws IllegalArgumentException {
        if (cause < 0 || cause > HIGHEST_CAUSE) {
            throw new IllegalArgumentException("a cause is 0 to 63");
        }
        Bank bank;
        if (goesToSupervisor(interrupt, cause)) {
            bank = supervisorBank;
            enterSupervisor();
        } else {
            bank = machineBank;
            enterMachine();
        }
        bank.remember(interrupt, cause, value, place);
        lastPlace = bank.entry(interrupt, cause);
        return lastPlace;
    }

    public boolean back(boolean machine) {
        if (!mayReturn(machine)) {
            return false;
        }
        if (machine) {
            leaveMachine();
        } else {
            leaveSupervisor();
        }
        if (currentMode != MACHINE_MODE) {
            status &= ~MPRV;
        }
        return true;
    }

    public long place() {
        return lastPlace;
    }

    public int taken() {
        long candidates = pending() & enabled;
        int first = NONE;
        if (takesUndelegated()) {
            first = firstInOrder(candidates & ~delegatedInterrupts);
        }
        if (first == NONE && takesDelegated()) {
            first = firstInOrder(candidates & delegatedInterrupts);
        }
        return first;
    }

    public boolean wakes() {
        return (pending() & enabled) != 0;
    }

    public void line(int interrupt, boolean on) throws IllegalArgumentException {
        if (interrupt != 3 && interrupt != 7 && interrupt != 9 && interrupt != 11) {
            throw new IllegalArgumentException("this interrupt has no line");
        }
        long bit = 1L << interrupt;
        lines = on ? lines | bit : lines & ~bit;
    }

    public boolean allowed(int what) throws IllegalArgumentException {
        if (what != WAIT && what != FENCE) {
            throw new IllegalArgumentException("neither WAIT nor FENCE");
        }
        return machineOrSupervisorWithout(what == WAIT ? TW : TVM);
    }

    public boolean floats() {
        return has(FS);
    }

    public void dirty() {
        if (has(FS)) {
            status |= FS;
        }
    }

    public void count(long cycles, long instructions) {
        cycleCount += cycles;
        instructionCount += instructions;
    }

    public void time(long t) {
        clock = t;
    }

    private boolean has(long statusBits) {
        return (status & statusBits) != 0;
    }

    private int previousMachineMode() {
        return (int) ((status & MPP) >>> MPP_SHIFT);
    }

    private boolean machineOrSupervisorWithout(long forbiddingBit) {
        return currentMode == MACHINE_MODE || currentMode == SUPERVISOR_MODE && !has(forbiddingBit);
    }

    private static boolean isFloat(int number) {
        return number >= R_FLOAT_FIRST && number <= R_FLOAT_LAST;
    }

    private static boolean isElsewhere(int number) {
        return isFloat(number) || number == R_PROTECTION_0 || number == R_PROTECTION_2
            || number >= R_PROTECTED_FIRST && number <= R_PROTECTED_LAST;
    }

    private static boolean isOpenCount(int number) {
        return number >= R_OPEN_CYCLES && number <= R_OPEN_INSTRUCTIONS;
    }

    private static boolean isHere(int number) {
        switch (number) {
            case R_STATUS: case R_SUPERVISOR_STATUS: case R_EXTENSIONS:
            case R_DELEGATED_EXCEPTIONS: case R_DELEGATED_INTERRUPTS:
            case R_ENABLED: case R_SUPERVISOR_ENABLED:
            case R_PENDING: case R_SUPERVISOR_PENDING:
            case R_MACHINE_VECTORS: case R_MACHINE_COUNTS: case R_MACHINE_SCRATCH:
            case R_MACHINE_PLACE: case R_MACHINE_CAUSE: case R_MACHINE_VALUE:
            case R_SUPERVISOR_VECTORS: case R_SUPERVISOR_COUNTS: case R_SUPERVISOR_SCRATCH:
            case R_SUPERVISOR_PLACE: case R_SUPERVISOR_CAUSE: case R_SUPERVISOR_VALUE:
            case R_TABLE: case R_CYCLES: case R_INSTRUCTIONS:
            case R_VENDOR: case R_ARCHITECTURE: case R_IMPLEMENTATION:
            case R_PROCESSOR: case R_CONFIGURATION:
            case R_OPEN_CYCLES: case R_OPEN_TIME: case R_OPEN_INSTRUCTIONS:
                return true;
            default:
                return false;
        }
    }

    private boolean isIllegal(int number, boolean writes) {
        int lowestMode = number >> 8 & 3;
        boolean readOnly = (number >> 10 & 3) == 3;
        return !isHere(number) && !isElsewhere(number)
            || lowestMode > currentMode
            || writes && readOnly
            || number == R_TABLE && currentMode == SUPERVISOR_MODE && has(TVM)
            || isFloat(number) && !has(FS)
            || isOpenCount(number) && isClosed(number - R_OPEN_CYCLES);
    }

    private boolean isClosed(int counter) {
        long bit = 1L << counter;
        return currentMode != MACHINE_MODE && (machineBank.openCounts & bit) == 0
            || currentMode == USER_MODE && (supervisorBank.openCounts & bit) == 0;
    }

    private long shownStatus() {
        long seen = status | STATUS_FIXED;
        return (status & FS) == FS ? seen | TOP_BIT : seen;
    }

    private long pending() {
        return pendingWritten | lines;
    }

    private long shown(int number) {
        switch (number) {
            case R_STATUS: return shownStatus();
            case R_SUPERVISOR_STATUS: return shownStatus() & SUPERVISOR_STATUS_SEEN;
            case R_EXTENSIONS: return EXTENSIONS;
            case R_DELEGATED_EXCEPTIONS: return delegatedExceptions;
            case R_DELEGATED_INTERRUPTS: return delegatedInterrupts;
            case R_ENABLED: return enabled;
            case R_SUPERVISOR_ENABLED: return enabled & delegatedInterrupts;
            case R_PENDING: return pending();
            case R_SUPERVISOR_PENDING: return pending() & delegatedInterrupts;
            case R_MACHINE_VECTORS: return machineBank.vectors;
            case R_MACHINE_COUNTS: return machineBank.openCounts;
            case R_MACHINE_SCRATCH: return machineBank.scratch;
            case R_MACHINE_PLACE: return machineBank.resume;
            case R_MACHINE_CAUSE: return machineBank.cause;
            case R_MACHINE_VALUE: return machineBank.value;
            case R_SUPERVISOR_VECTORS: return supervisorBank.vectors;
            case R_SUPERVISOR_COUNTS: return supervisorBank.openCounts;
            case R_SUPERVISOR_SCRATCH: return supervisorBank.scratch;
            case R_SUPERVISOR_PLACE: return supervisorBank.resume;
            case R_SUPERVISOR_CAUSE: return supervisorBank.cause;
            case R_SUPERVISOR_VALUE: return supervisorBank.value;
            case R_TABLE: return table;
            case R_CYCLES: case R_OPEN_CYCLES: return cycleCount;
            case R_INSTRUCTIONS: case R_OPEN_INSTRUCTIONS: return instructionCount;
            case R_OPEN_TIME: return clock;
            case R_PROCESSOR: return processor;
            default: return 0;
        }
    }

    // The line of interrupt 9 is seen in PENDING, but SET and CLEAR must not turn it into a written bit.
    private long changeable(int number, long before) {
        return number == R_PENDING ? merged(before, pendingWritten, OUTSIDE_OF_SUPERVISOR) : before;
    }

    private static long combined(int operation, long before, long operand) {
        switch (operation) {
            case SET: return before | operand;
            case CLEAR: return before & ~operand;
            default: return operand;
        }
    }

    private static long merged(long old, long value, long mask) {
        return old & ~mask | value & mask;
    }

    private void store(int number, long value) {
        switch (number) {
            case R_STATUS: storeStatus(value, STATUS_MASK); break;
            case R_SUPERVISOR_STATUS: storeStatus(value, SUPERVISOR_STATUS_MASK); break;
            case R_DELEGATED_EXCEPTIONS: delegatedExceptions = value & EXCEPTIONS_MASK; break;
            case R_DELEGATED_INTERRUPTS: delegatedInterrupts = value & SUPERVISOR_INTERRUPTS; break;
            case R_ENABLED: enabled = value & ALL_INTERRUPTS; break;
            case R_SUPERVISOR_ENABLED: enabled = merged(enabled, value, delegatedInterrupts); break;
            case R_PENDING: pendingWritten = value & SUPERVISOR_INTERRUPTS; break;
            case R_SUPERVISOR_PENDING: storeSupervisorPending(value); break;
            case R_MACHINE_VECTORS: machineBank.keepVectors(value); break;
            case R_MACHINE_COUNTS: machineBank.openCounts = value & COUNTS_MASK; break;
            case R_MACHINE_SCRATCH: machineBank.scratch = value; break;
            case R_MACHINE_PLACE: machineBank.keepResume(value); break;
            case R_MACHINE_CAUSE: machineBank.cause = value; break;
            case R_MACHINE_VALUE: machineBank.value = value; break;
            case R_SUPERVISOR_VECTORS: supervisorBank.keepVectors(value); break;
            case R_SUPERVISOR_COUNTS: supervisorBank.openCounts = value & COUNTS_MASK; break;
            case R_SUPERVISOR_SCRATCH: supervisorBank.scratch = value; break;
            case R_SUPERVISOR_PLACE: supervisorBank.keepResume(value); break;
            case R_SUPERVISOR_CAUSE: supervisorBank.cause = value; break;
            case R_SUPERVISOR_VALUE: supervisorBank.value = value; break;
            case R_TABLE: storeTable(value); break;
            case R_CYCLES: cycleCount = value; break;
            case R_INSTRUCTIONS: instructionCount = value; break;
            default: break;
        }
    }

    private void storeStatus(long value, long mask) {
        long next = merged(status, value, mask);
        boolean refused = (next & MPP) == MPP_NEVER;
        status = refused ? merged(next, status, MPP) : next;
    }

    private void storeSupervisorPending(long value) {
        pendingWritten = merged(pendingWritten, value, SOFTWARE_OF_SUPERVISOR & delegatedInterrupts);
    }

    private void storeTable(long value) {
        long kind = value >>> 60;
        if (kind == 0 || kind == 8 || kind == 9) {
            table = value;
        }
    }

    private boolean goesToSupervisor(boolean interrupt, int cause) {
        long delegated = interrupt ? delegatedInterrupts : delegatedExceptions;
        return currentMode != MACHINE_MODE && (delegated >>> cause & 1L) != 0;
    }

    private void enterSupervisor() {
        long kept = status & ~(SPP | SPIE | SIE);
        long previousMode = currentMode == SUPERVISOR_MODE ? SPP : 0;
        long previousEnable = has(SIE) ? SPIE : 0;
        status = kept | previousMode | previousEnable;
        currentMode = SUPERVISOR_MODE;
    }

    private void enterMachine() {
        long kept = status & ~(MPP | MPIE | MIE);
        long previousMode = (long) currentMode << MPP_SHIFT;
        long previousEnable = has(MIE) ? MPIE : 0;
        status = kept | previousMode | previousEnable;
        currentMode = MACHINE_MODE;
    }

    private boolean mayReturn(boolean machine) {
        return machine ? currentMode == MACHINE_MODE : machineOrSupervisorWithout(TSR);
    }

    private void leaveMachine() {
        long enable = has(MPIE) ? MIE : 0;
        currentMode = previousMachineMode();
        status = status & ~(MPP | MIE) | MPIE | enable;
        lastPlace = machineBank.resume;
    }

    private void leaveSupervisor() {
        long enable = has(SPIE) ? SIE : 0;
        currentMode = has(SPP) ? SUPERVISOR_MODE : USER_MODE;
        status = status & ~(SPP | SIE) | SPIE | enable;
        lastPlace = supervisorBank.resume;
    }

    private boolean takesUndelegated() {
        return currentMode != MACHINE_MODE || has(MIE);
    }

    private boolean takesDelegated() {
        return currentMode == USER_MODE || currentMode == SUPERVISOR_MODE && has(SIE);
    }

    private static int firstInOrder(long candidates) {
        for (int interrupt : INTERRUPT_ORDER) {
            if ((candidates >>> interrupt & 1L) != 0) {
                return interrupt;
            }
        }
        return NONE;
    }
}
