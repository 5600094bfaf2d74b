import java.util.Arrays;
import java.util.function.Consumer;
import java.util.function.Supplier;

/** One method a promise: ordinary inputs, the edges that the document names, and wrong inputs. */
public final class ControlDeskPromises {
    private static final int WRITE = 1, SET = 2, CLEAR = 3;
    private static final long SIE = 2, MIE = 8, SPIE = 32, MPIE = 128, SPP = 256, MPP_1 = 2048, MPP_2 = 4096, MPP_3 = 6144;
    private static final long FS_1 = 8192, FS_2 = 16384, FS_3 = 24576, MPRV = 131072, SUM = 262144, MXR = 524288;
    private static final long TVM = 1048576, TW = 2097152, TSR = 4194304;
    private static final long TOP = Long.MIN_VALUE;
    private static final long STATUS_ALWAYS = 42949672960L, SUPERVISOR_STATUS_ALWAYS = 8589934592L;
    private static final long EXTENSIONS = -9223372036853460691L;

    private static final int[] HERE = {
        256, 260, 261, 262, 320, 321, 322, 323, 324, 384,
        768, 769, 770, 771, 772, 773, 774, 832, 833, 834, 835, 836,
        2816, 2818, 3072, 3073, 3074, 3857, 3858, 3859, 3860, 3861};
    private static final int[] ELSEWHERE = {
        1, 2, 3, 928, 930,
        944, 945, 946, 947, 948, 949, 950, 951, 952, 953, 954, 955, 956, 957, 958, 959};
    private static final int[] ANY_NUMBER = {320, 322, 323, 832, 834, 835, 2816, 2818};
    private static final int[] LINES = {3, 7, 9, 11};
    private static final long[] SAMPLES = {
        0, 1, 2, -1, Long.MIN_VALUE, Long.MAX_VALUE, 0x5555555555555555L, 0xAAAAAAAAAAAAAAAAL, 0x0123456789ABCDEFL};

    private static int wrong = 0;

    private static void due(String what, long got, long want) {
        if (got != want) {
            wrong++;
            System.out.println(what + " answered " + got + ", due is " + want);
        }
    }

    private static void due(String what, boolean got, boolean want) {
        due(what, got ? 1 : 0, want ? 1 : 0);
    }

    private static boolean holds(int[] row, int number) {
        for (int each : row) {
            if (each == number) {
                return true;
            }
        }
        return false;
    }

    private static void write(ControlDesk desk, int number, long value) {
        due("access(" + number + ", 1, true, " + value + ") to prepare", desk.access(number, WRITE, true, value), ControlDesk.DONE);
    }

    private static ControlDesk withStatus(long status) {
        ControlDesk desk = new ControlDesk(0);
        write(desk, 768, status);
        return desk;
    }

    /** Goes from mode 3 to the mode by a return; MIE is 0 then, MPIE 1, and the status' other bits stay. */
    private static void lower(ControlDesk desk, int mode) {
        desk.access(768, CLEAR, true, MPP_3 | MIE | MPIE);
        desk.access(768, SET, true, (long) mode << 11);
        due("back(true) to prepare", desk.back(true), true);
        due("mode() to prepare", desk.mode(), mode);
    }

    private static ControlDesk inMode(int mode, long status) {
        ControlDesk desk = withStatus(status);
        if (mode != 3) {
            lower(desk, mode);
        }
        return desk;
    }

    /** A desk that has something in every register and answer, so that a change anywhere is seen. */
    private static ControlDesk busy(int mode) {
        ControlDesk desk = new ControlDesk(2);
        for (int k = 0; k < HERE.length; k++) {
            int number = HERE[k];
            if (number < 3072 && number != 768 && number != 256) {
                desk.access(number, WRITE, true, 0x0123456789ABCDEFL ^ 31L * k);
            }
        }
        desk.access(768, WRITE, true, SIE | SPIE | SPP | FS_1 | SUM | TW);
        desk.access(836, WRITE, true, 32);
        desk.line(9, true);
        desk.line(7, true);
        desk.time(12345);
        desk.count(3, 4);
        lower(desk, mode);
        return desk;
    }

    /** Everything that can be asked for, without a change. */
    private static long[] all(ControlDesk desk) {
        long[] answers = new long[HERE.length + 9];
        int k = 0;
        for (int number : HERE) {
            answers[k++] = desk.peek(number);
        }
        answers[k++] = desk.mode();
        answers[k++] = desk.dataMode();
        answers[k++] = desk.had();
        answers[k++] = desk.place();
        answers[k++] = desk.taken();
        answers[k++] = desk.wakes() ? 1 : 0;
        answers[k++] = desk.floats() ? 1 : 0;
        answers[k++] = desk.allowed(ControlDesk.WAIT) ? 1 : 0;
        answers[k++] = desk.allowed(ControlDesk.FENCE) ? 1 : 0;
        return answers;
    }

    private static void changesNothing(String what, Supplier<ControlDesk> maker, Consumer<ControlDesk> call) {
        ControlDesk touched = maker.get();
        call.accept(touched);
        due(what + " leaves all as it was", Arrays.equals(all(touched), all(maker.get())), true);
    }

    private static void throwsAndChangesNothing(String what, Consumer<ControlDesk> call) {
        for (int mode : new int[] {0, 1, 3}) {
            changesNothing(what, () -> busy(mode), desk -> {
                Class<?> thrown = null;
                try {
                    call.accept(desk);
                } catch (RuntimeException e) {
                    thrown = e.getClass();
                }
                due(what + " throws IllegalArgumentException", thrown == IllegalArgumentException.class, true);
            });
        }
    }

    private static void promise1NewObject() {
        for (int number : new int[] {0, 1, 2, 3, 4, 5, -1, 256, Integer.MAX_VALUE, Integer.MIN_VALUE}) {
            ControlDesk desk = new ControlDesk(number);
            String who = "new ControlDesk(" + number + "): ";
            due(who + "mode()", desk.mode(), 3);
            due(who + "dataMode()", desk.dataMode(), 3);
            due(who + "had()", desk.had(), 0);
            due(who + "place()", desk.place(), 0);
            due(who + "taken()", desk.taken(), ControlDesk.NONE);
            due(who + "wakes()", desk.wakes(), false);
            due(who + "floats()", desk.floats(), false);
            for (int register : HERE) {
                long want = register == 768 ? STATUS_ALWAYS
                    : register == 256 ? SUPERVISOR_STATUS_ALWAYS
                    : register == 769 ? EXTENSIONS
                    : register == 3860 && number >= 0 && number <= 3 ? number : 0;
                due(who + "peek(" + register + ")", desk.peek(register), want);
            }
        }
        ControlDesk first = new ControlDesk(1);
        ControlDesk second = new ControlDesk(2);
        write(first, 832, 99);
        due("another object's 832", second.peek(832), 0);
    }

    private static void promise2Mode() {
        for (int mode : new int[] {0, 1, 3}) {
            ControlDesk desk = withStatus((long) mode << 11);
            due("back(true)", desk.back(true), true);
            due("mode() after a return to " + mode, desk.mode(), mode);
            desk.trap(false, 2, 0, 0);
            due("mode() after a trap to the machine", desk.mode(), 3);
        }
        ControlDesk desk = new ControlDesk(0);
        write(desk, 770, 4);
        lower(desk, 0);
        desk.trap(false, 2, 0, 0);
        due("mode() after a delegated trap", desk.mode(), 1);
        desk.access(768, SET, true, MPP_3);
        due("mode() after an illegal access", desk.mode(), 1);
    }

    private static void promise3DataMode() {
        for (int previous : new int[] {0, 1, 3}) {
            long mpp = (long) previous << 11;
            due("dataMode() without MPRV", withStatus(mpp).dataMode(), 3);
            due("dataMode() with MPRV", withStatus(mpp | MPRV).dataMode(), previous);
            ControlDesk desk = withStatus(mpp | MPRV);
            desk.back(true);
            due("dataMode() after a return", desk.dataMode(), previous == 3 ? 0 : previous);
            due("MPRV after a return to " + previous, desk.peek(768) & MPRV, previous == 3 ? MPRV : 0);
        }
        for (int mode : new int[] {0, 1}) {
            due("dataMode() in mode " + mode, inMode(mode, 0).dataMode(), mode);
        }
        ControlDesk trapped = withStatus(MPRV);
        trapped.trap(false, 2, 0, 0);
        due("dataMode() with MPRV after a trap in mode 3", trapped.dataMode(), 3);
    }

    /** What access answers with no bit of STATUS but FS set, all counts open for mode 1 and closed for mode 0. */
    private static int accessDue(int number, int mode, boolean writes, boolean floats) {
        boolean elsewhere = holds(ELSEWHERE, number);
        boolean there = elsewhere || holds(HERE, number);
        boolean float3 = number >= 1 && number <= 3;
        boolean openCount = number >= 3072 && number <= 3074;
        if (!there || (number & 768) >> 8 > mode || writes && number >= 3072 || float3 && !floats || openCount && mode == 0) {
            return ControlDesk.ILLEGAL;
        }
        return elsewhere ? ControlDesk.ELSEWHERE : ControlDesk.DONE;
    }

    private static void accessOfEveryNumber() {
        for (int mode : new int[] {0, 1, 3}) {
            for (int number = 0; number <= 4095; number++) {
                for (int variant = 0; variant < 4; variant++) {
                    boolean writes = (variant & 1) != 0;
                    boolean floats = (variant & 2) != 0;
                    ControlDesk desk = withStatus(floats ? FS_2 : 0);
                    write(desk, 774, 7);
                    if (mode != 3) {
                        lower(desk, mode);
                    }
                    due("access(" + number + ", 2, " + writes + ", 0) in mode " + mode + ", floats " + floats,
                        desk.access(number, SET, writes, 0), accessDue(number, mode, writes, floats));
                }
            }
        }
    }

    private static void accessOfMasked(int number, long mask, long always) {
        for (long sample : SAMPLES) {
            for (long other : SAMPLES) {
                ControlDesk desk = new ControlDesk(0);
                write(desk, number, sample);
                due(number + " after WRITE " + sample, desk.peek(number), sample & mask | always);
                due("read alone", desk.access(number, WRITE, false, other), ControlDesk.DONE);
                due("SET without write", desk.access(number, SET, false, other), ControlDesk.DONE);
                due("CLEAR without write", desk.access(number, CLEAR, false, other), ControlDesk.DONE);
                due(number + " after reads", desk.peek(number), sample & mask | always);
                due("SET", desk.access(number, SET, true, other), ControlDesk.DONE);
                due(number + " after SET " + other, desk.peek(number), (sample | other) & mask | always);
                write(desk, number, sample);
                due("CLEAR", desk.access(number, CLEAR, true, other), ControlDesk.DONE);
                due(number + " after CLEAR " + other, desk.peek(number), sample & ~other & mask | always);
            }
        }
    }

    private static void accessOfStatus() {
        long both = SIE | SPIE | SPP | SUM | MXR;
        long machineOnly = MIE | MPIE | MPP_3 | MPRV | TVM | TW | TSR;
        ControlDesk desk = withStatus(-1);
        due("768 after -1", desk.peek(768), both | machineOnly | FS_3 | STATUS_ALWAYS | TOP);
        due("256 after -1", desk.peek(256), both | FS_3 | SUPERVISOR_STATUS_ALWAYS | TOP);
        write(desk, 256, 0);
        due("768 after 0 to 256", desk.peek(768), machineOnly | STATUS_ALWAYS);
        write(desk, 768, 0);
        write(desk, 256, -1);
        due("768 after -1 to 256", desk.peek(768), both | FS_3 | STATUS_ALWAYS | TOP);
        for (long fs : new long[] {0, FS_1, FS_2, FS_3}) {
            due("768 with FS " + fs, withStatus(fs).peek(768), fs | STATUS_ALWAYS | (fs == FS_3 ? TOP : 0));
        }
        for (long kept : new long[] {0, MPP_1, MPP_3}) {
            ControlDesk other = withStatus(kept);
            write(other, 768, MPP_2 | SIE);
            due("768 after a write with MPP 2", other.peek(768), kept | SIE | STATUS_ALWAYS);
        }
        ControlDesk setting = withStatus(0);
        setting.access(768, SET, true, MPP_2);
        due("768 after SET to MPP 2", setting.peek(768), STATUS_ALWAYS);
        ControlDesk clearing = withStatus(MPP_3);
        clearing.access(768, CLEAR, true, MPP_1);
        due("768 after CLEAR to MPP 2", clearing.peek(768), MPP_3 | STATUS_ALWAYS);
    }

    private static void accessOfEnabled() {
        for (long delegated : new long[] {0, 2, 32, 512, 34, 514, 544, 546}) {
            ControlDesk desk = new ControlDesk(0);
            write(desk, 771, delegated);
            write(desk, 772, -1);
            due("772", desk.peek(772), 2730);
            due("260", desk.peek(260), delegated);
            write(desk, 260, 0);
            due("772 after 0 to 260", desk.peek(772), 2730 & ~delegated);
            write(desk, 772, 0);
            desk.access(260, SET, true, -1);
            due("772 after SET of 260", desk.peek(772), delegated);
        }
    }

    private static void accessOfPending() {
        for (long delegated : new long[] {0, 2, 32, 512, 546}) {
            ControlDesk desk = new ControlDesk(0);
            write(desk, 771, delegated);
            write(desk, 836, -1);
            due("836 after -1", desk.peek(836), 546);
            due("324 after -1", desk.peek(324), delegated);
            write(desk, 324, 0);
            due("836 after 0 to 324", desk.peek(836), 546 & ~(delegated & 2));
            write(desk, 836, 0);
            desk.access(324, SET, true, -1);
            due("836 after SET of 324", desk.peek(836), delegated & 2);
        }
        ControlDesk desk = new ControlDesk(0);
        write(desk, 771, 546);
        desk.line(9, true);
        due("836 with line 9", desk.peek(836), 512);
        due("324 with line 9", desk.peek(324), 512);
        desk.access(836, SET, true, 2);
        desk.access(324, SET, true, 512);
        desk.line(9, false);
        due("836: SET does not write the line down", desk.peek(836), 2);
        desk.line(9, true);
        desk.access(836, CLEAR, true, 512);
        due("836: CLEAR leaves the line", desk.peek(836), 514);
        desk.access(836, SET, true, 512);
        desk.access(836, CLEAR, true, 2);
        desk.line(9, false);
        due("836: bit 9 as it was written", desk.peek(836), 512);
        desk.line(3, true);
        desk.line(7, true);
        desk.line(11, true);
        write(desk, 836, 0);
        due("836: a write leaves 3, 7, 11", desk.peek(836), 2184);
    }

    private static void accessOfTable() {
        for (int old : new int[] {0, 8, 9}) {
            for (int kind = 0; kind < 16; kind++) {
                ControlDesk desk = new ControlDesk(0);
                long before = (long) old << 60 | 123;
                write(desk, 384, before);
                long next = (long) kind << 60 | 0x0FFFFFFFFFFFFFFEL;
                write(desk, 384, next);
                due("384 after kind " + kind, desk.peek(384), kind == 0 || kind == 8 || kind == 9 ? next : before);
            }
        }
        ControlDesk desk = new ControlDesk(0);
        write(desk, 384, 9L << 60 | 1);
        desk.access(384, CLEAR, true, 8L << 60 | 1);
        due("384 after a CLEAR to kind 1", desk.peek(384), 9L << 60 | 1);
        desk.access(384, CLEAR, true, 1L << 60);
        due("384 after a CLEAR to kind 8", desk.peek(384), 8L << 60 | 1);
        desk.access(384, SET, true, 1L << 60 | 2);
        due("384 after a SET to kind 9", desk.peek(384), 9L << 60 | 3);
        for (int mode : new int[] {0, 1, 3}) {
            for (boolean writes : new boolean[] {false, true}) {
                due("384 with TVM in mode " + mode, inMode(mode, TVM).access(384, WRITE, writes, 0),
                    mode == 3 ? ControlDesk.DONE : ControlDesk.ILLEGAL);
                due("384 without TVM in mode " + mode, inMode(mode, TW | TSR).access(384, WRITE, writes, 0),
                    mode == 0 ? ControlDesk.ILLEGAL : ControlDesk.DONE);
            }
        }
    }

    private static void accessOfOpenCounts() {
        for (int machine = 0; machine < 8; machine++) {
            for (int supervisor = 0; supervisor < 8; supervisor++) {
                for (int mode : new int[] {0, 1, 3}) {
                    ControlDesk desk = new ControlDesk(0);
                    write(desk, 774, machine);
                    write(desk, 262, supervisor);
                    if (mode != 3) {
                        lower(desk, mode);
                    }
                    for (int k = 0; k < 3; k++) {
                        int open = mode == 3 ? 7 : mode == 1 ? machine : machine & supervisor;
                        due("access(" + (3072 + k) + ") in mode " + mode + " with " + machine + ", " + supervisor,
                            desk.access(3072 + k, CLEAR, false, 0),
                            (open >> k & 1) == 1 ? ControlDesk.DONE : ControlDesk.ILLEGAL);
                    }
                }
            }
        }
    }

    private static void accessOfElsewhere() {
        for (int number : ELSEWHERE) {
            for (int operation = WRITE; operation <= CLEAR; operation++) {
                for (long fs : new long[] {FS_1, FS_2, FS_3}) {
                    long others = SIE | MPIE | MPP_1 | SUM | TW;
                    ControlDesk desk = withStatus(fs | others);
                    desk.access(769, WRITE, false, 0);
                    due("read of " + number, desk.access(number, operation, false, -1), ControlDesk.ELSEWHERE);
                    due("FS after a read of " + number, desk.peek(768) & FS_3, fs);
                    due("write of " + number, desk.access(number, operation, true, 0), ControlDesk.ELSEWHERE);
                    due("FS after a write of " + number, desk.peek(768), others | STATUS_ALWAYS | (number <= 3 || fs == FS_3 ? FS_3 | TOP : fs));
                    due("had() after ELSEWHERE", desk.had(), EXTENSIONS);
                    due("peek(" + number + ")", desk.peek(number), 0);
                }
            }
        }
        ControlDesk off = withStatus(0);
        due("write of 1 with FS 0", off.access(1, WRITE, true, 5), ControlDesk.ILLEGAL);
        due("FS after it", off.floats(), false);
        due("write of 928 with FS 0", off.access(928, WRITE, true, 5), ControlDesk.ELSEWHERE);
        due("FS after that", off.floats(), false);
        due("write of 2 in mode 0", inMode(0, FS_1).access(2, SET, true, 5), ControlDesk.ELSEWHERE);
    }

    private static void illegalAccessChangesNothing() {
        for (int mode : new int[] {0, 1, 3}) {
            for (int number : new int[] {0, 4, 255, 257, 768, 836, 322, 384, 929, 943, 960, 2817, 3072, 3075, 3856, 3860, 3862, 4095}) {
                ControlDesk probe = busy(mode);
                if (probe.access(number, WRITE, true, 6) == ControlDesk.ILLEGAL) {
                    changesNothing("an ILLEGAL access of " + number, () -> busy(mode), desk -> desk.access(number, WRITE, true, 6));
                }
            }
        }
    }

    private static void promise4Access() {
        accessOfEveryNumber();
        for (int number : ANY_NUMBER) {
            accessOfMasked(number, -1, 0);
        }
        accessOfMasked(770, 46079, 0);
        accessOfMasked(771, 546, 0);
        accessOfMasked(772, 2730, 0);
        accessOfMasked(773, ~2L, 0);
        accessOfMasked(261, ~2L, 0);
        accessOfMasked(833, ~1L, 0);
        accessOfMasked(321, ~1L, 0);
        accessOfMasked(774, 7, 0);
        accessOfMasked(262, 7, 0);
        accessOfMasked(836, 546, 0);
        accessOfMasked(769, 0, EXTENSIONS);
        accessOfStatus();
        accessOfEnabled();
        accessOfPending();
        accessOfTable();
        accessOfOpenCounts();
        accessOfElsewhere();
        illegalAccessChangesNothing();
        for (int number : new int[] {-1, 4096, 4096 + 768, -4096 + 768, Integer.MIN_VALUE, Integer.MAX_VALUE}) {
            throwsAndChangesNothing("access(" + number + ", ..)", desk -> desk.access(number, WRITE, true, 0));
            throwsAndChangesNothing("access(" + number + ", .., false)", desk -> desk.access(number, WRITE, false, 0));
        }
        for (int operation : new int[] {0, 4, -1, 5, Integer.MIN_VALUE, Integer.MAX_VALUE}) {
            for (int number : new int[] {0, 1, 256, 320, 768, 832, 928, 3072, 4095}) {
                throwsAndChangesNothing("access(" + number + ", " + operation + ", ..)", desk -> desk.access(number, operation, true, 0));
                throwsAndChangesNothing("access(" + number + ", " + operation + ", .., false)", desk -> desk.access(number, operation, false, 0));
            }
        }
    }

    private static void promise5Had() {
        for (int operation = WRITE; operation <= CLEAR; operation++) {
            for (boolean writes : new boolean[] {false, true}) {
                ControlDesk desk = new ControlDesk(0);
                write(desk, 832, 12);
                due("had() after the first write", desk.had(), 0);
                desk.access(832, operation, writes, 10);
                due("had() is from before the access", desk.had(), 12);
                desk.access(4095, operation, writes, 10);
                due("had() after ILLEGAL", desk.had(), 12);
                desk.access(928, operation, writes, 10);
                due("had() after ELSEWHERE", desk.had(), 12);
                desk.peek(769);
                due("had() after peek", desk.had(), 12);
                desk.line(9, true);
                desk.access(836, operation, writes, 0);
                due("had() of 836 is what reading shows", desk.had(), 512);
            }
        }
        for (int number : HERE) {
            ControlDesk desk = busy(3);
            desk.trap(false, 2, 0, 0);
            long shown = desk.peek(number);
            if (desk.access(number, SET, false, -1) == ControlDesk.DONE) {
                due("had() of " + number, desk.had(), shown);
            }
        }
    }

    private static void promise6Peek() {
        for (int mode : new int[] {0, 1, 3}) {
            ControlDesk desk = busy(mode);
            ControlDesk machine = busy(mode);
            machine.trap(false, 2, 0, 0);
            for (int number : HERE) {
                boolean trapWrites = number == 768 || number >= 833 && number <= 835;
                if (!trapWrites) {
                    due("peek(" + number + ") in mode " + mode, desk.peek(number), machine.peek(number));
                }
            }
            due("peek(3860)", desk.peek(3860), 2);
            due("peek(3073)", desk.peek(3073), 12345);
        }
        for (int first = -300; first < 4500; first += 400) {
            ControlDesk desk = busy(1);
            for (int number = first; number < first + 400; number++) {
                if (!holds(HERE, number)) {
                    due("peek(" + number + ")", desk.peek(number), 0);
                }
            }
        }
        ControlDesk desk = busy(1);
        for (int number : new int[] {Integer.MIN_VALUE, Integer.MAX_VALUE, -1, 4096, 4096 + 832, 832 - 4096}) {
            due("peek(" + number + ")", desk.peek(number), 0);
        }
        changesNothing("peek", () -> busy(1), other -> other.peek(769));
    }

    /** A trap in a mode, with all delegated that can be, or nothing; a return makes MIE of the enables' MPIE first. */
    private static void trapOnce(int mode, boolean delegates, boolean interrupt, int cause, long enables) {
        String what = "trap(" + interrupt + ", " + cause + ") in mode " + mode + ", delegates " + delegates;
        ControlDesk desk = new ControlDesk(0);
        write(desk, 770, delegates ? -1 : 0);
        write(desk, 771, delegates ? -1 : 0);
        write(desk, 773, 4097);
        write(desk, 261, 8193);
        write(desk, 768, enables | (long) mode << 11);
        desk.back(true);
        long before = desk.peek(768);
        boolean sie = (before & SIE) != 0;
        boolean mie = (before & MIE) != 0;
        long mask = interrupt ? 546 : 46079;
        boolean supervisor = mode != 3 && delegates && (mask >>> cause & 1) == 1;
        long base = supervisor ? 8192 : 4096;
        long want = interrupt ? base + 4L * cause : base;
        due(what, desk.trap(interrupt, cause, -77, 1001), want);
        due(what + ": place()", desk.place(), want);
        due(what + ": mode()", desk.mode(), supervisor ? 1 : 3);
        int bank = supervisor ? 320 : 832;
        int other = supervisor ? 832 : 320;
        due(what + ": PLACE", desk.peek(bank + 1), 1000);
        due(what + ": CAUSE", desk.peek(bank + 2), interrupt ? cause | TOP : cause);
        due(what + ": VALUE", desk.peek(bank + 3), -77);
        for (int k = 1; k <= 3; k++) {
            due(what + ": the other bank", desk.peek(other + k), 0);
        }
        long status = supervisor
            ? before & ~(SPP | SPIE | SIE) | (mode == 1 ? SPP : 0) | (sie ? SPIE : 0)
            : before & ~(MPP_3 | MPIE | MIE) | (long) mode << 11 | (mie ? MPIE : 0);
        due(what + ": STATUS", desk.peek(768), status);
    }

    private static void promise7Trap() {
        for (int mode : new int[] {0, 1, 3}) {
            for (int cause = 0; cause <= 63; cause++) {
                for (int variant = 0; variant < 32; variant++) {
                    long enables = ((variant & 4) != 0 ? SIE : 0) | ((variant & 8) != 0 ? MPIE : 0) | ((variant & 16) != 0 ? SPIE : 0);
                    trapOnce(mode, (variant & 1) != 0, (variant & 2) != 0, cause, enables);
                }
            }
        }
        ControlDesk plain = new ControlDesk(0);
        write(plain, 773, -4);
        due("an interrupt with bit 0 of the vectors 0", plain.trap(true, 11, 0, 0), -4);
        write(plain, 773, -3);
        due("an interrupt at the vectors' end", plain.trap(true, 11, 0, 0), 40);
        due("an exception with bit 0 of the vectors 1", plain.trap(false, 11, 0, 0), -4);
        ControlDesk spp = new ControlDesk(0);
        write(spp, 770, -1);
        write(spp, 768, SPP);
        lower(spp, 0);
        spp.trap(false, 8, 0, -1);
        due("SPP after a trap from mode 0", spp.peek(256) & SPP, 0);
        due("321 has no bit 0", spp.peek(321), -2);
        ControlDesk one = new ControlDesk(0);
        write(one, 770, 256);
        write(one, 771, 2);
        lower(one, 0);
        one.trap(true, 8, 0, 0);
        due("mode() after an interrupt that only 770 has", one.mode(), 3);
        lower(one, 0);
        one.trap(false, 1, 0, 0);
        due("mode() after an exception that only 771 has", one.mode(), 3);
        for (int cause : new int[] {-1, 64, 65, 128, Integer.MIN_VALUE, Integer.MAX_VALUE}) {
            throwsAndChangesNothing("trap(true, " + cause + ", ..)", desk -> desk.trap(true, cause, 1, 2));
            throwsAndChangesNothing("trap(false, " + cause + ", ..)", desk -> desk.trap(false, cause, 1, 2));
        }
    }

    private static void machineReturns() {
        for (int mode : new int[] {0, 1, 3}) {
            for (int variant = 0; variant < 8; variant++) {
                long mie = (variant & 1) != 0 ? MIE : 0;
                long mpie = (variant & 2) != 0 ? MPIE : 0;
                long mprv = (variant & 4) != 0 ? MPRV : 0;
                long others = SIE | SPP | FS_1 | SUM | TW | TSR | TVM;
                ControlDesk desk = withStatus(others | mie | mpie | mprv | (long) mode << 11);
                write(desk, 833, 5001);
                write(desk, 321, 7001);
                due("back(true) in mode 3", desk.back(true), true);
                due("back(true): mode()", desk.mode(), mode);
                due("back(true): place()", desk.place(), 5000);
                due("back(true): STATUS", desk.peek(768),
                    others | MPIE | (mpie != 0 ? MIE : 0) | (mode == 3 ? mprv : 0) | STATUS_ALWAYS);
                due("back(true): 833", desk.peek(833), 5000);
            }
        }
    }

    private static void supervisorReturns() {
        for (int from : new int[] {1, 3}) {
            for (int variant = 0; variant < 16; variant++) {
                long sie = (variant & 1) != 0 ? SIE : 0;
                long spie = (variant & 2) != 0 ? SPIE : 0;
                long spp = (variant & 4) != 0 ? SPP : 0;
                long tsr = (variant & 8) != 0 ? TSR : 0;
                long others = FS_1 | SUM | TW | TVM;
                ControlDesk desk = new ControlDesk(0);
                write(desk, 833, 5001);
                write(desk, 321, 7001);
                write(desk, 768, sie | spie | spp | tsr | others | (from == 3 ? MPRV | MPP_1 | MIE : 0));
                if (from == 1) {
                    lower(desk, 1);
                }
                long left = from == 3 ? MPP_1 | MIE : MPIE;
                boolean legal = from == 3 || tsr == 0;
                due("back(false) from " + from, desk.back(false), legal);
                due("back(false): mode()", desk.mode(), legal ? spp != 0 ? 1 : 0 : from);
                due("back(false): place()", desk.place(), legal ? 7000 : 5000);
                long status = legal ? SPIE | (spie != 0 ? SIE : 0) : sie | spie | spp;
                due("back(false): STATUS", desk.peek(768), status | tsr | others | left | STATUS_ALWAYS);
            }
        }
    }

    private static void promise8Back() {
        machineReturns();
        supervisorReturns();
        for (int mode : new int[] {0, 1}) {
            due("back(true) in mode " + mode, busy(mode).back(true), false);
            changesNothing("back(true) in mode " + mode, () -> busy(mode), desk -> desk.back(true));
        }
        due("back(false) in mode 0", busy(0).back(false), false);
        changesNothing("back(false) in mode 0", () -> busy(0), desk -> desk.back(false));
        due("back(false) in mode 0 with TSR", inMode(0, TSR).back(false), false);
    }

    private static void promise9Place() {
        ControlDesk desk = new ControlDesk(0);
        write(desk, 773, 4096);
        write(desk, 833, 600);
        write(desk, 321, 700);
        due("place() after writes", desk.place(), 0);
        desk.trap(false, 2, 0, 33);
        due("place() after a trap", desk.place(), 4096);
        write(desk, 768, MPP_1 | SPP);
        desk.back(true);
        due("place() after a return of the machine", desk.place(), 32);
        desk.back(true);
        due("place() after an illegal return", desk.place(), 32);
        desk.back(false);
        due("place() after a return of the supervisor", desk.place(), 700);
        desk.access(321, WRITE, true, 800);
        due("place() after a later write", desk.place(), 700);
    }

    /** The order by hand: those not delegated first, then 11, 3, 7, 9, 1, 5. */
    private static int takenDue(long ready, long delegated, int mode, boolean mie, boolean sie) {
        int[] order = {11, 3, 7, 9, 1, 5};
        for (int round = 0; round < 2; round++) {
            boolean open = round == 0 ? mode < 3 || mie : mode == 0 || mode == 1 && sie;
            long group = round == 0 ? ready & ~delegated : ready & delegated;
            for (int interrupt : order) {
                if (open && (group >>> interrupt & 1) == 1) {
                    return interrupt;
                }
            }
        }
        return -1;
    }

    private static long spread(int six) {
        long bits = 0;
        for (int k = 0; k < 6; k++) {
            bits |= (long) (six >> k & 1) << 2 * k + 1;
        }
        return bits;
    }

    private static ControlDesk interrupted(long pending, long enabled, long delegated, int mode, int variant) {
        ControlDesk desk = new ControlDesk(0);
        write(desk, 771, delegated);
        write(desk, 772, enabled);
        write(desk, 836, pending);
        for (int interrupt : LINES) {
            boolean on = (pending >>> interrupt & 1) == 1;
            if (interrupt != 9) {
                desk.line(interrupt, on);
            }
        }
        boolean mie = (variant & 1) != 0;
        boolean sie = (variant & 2) != 0;
        if (mode == 3) {
            write(desk, 768, (mie ? MIE : 0) | (sie ? SIE : 0));
        } else {
            write(desk, 768, (mie ? MPIE : 0) | (sie ? SIE : 0) | (long) mode << 11);
            desk.back(true);
        }
        return desk;
    }

    private static void promise10Taken() {
        for (int pending = 0; pending < 64; pending++) {
            for (int enabled : new int[] {63, 0, 21, 42, 7, 56, 62, 31, 47, 55, 59, 61}) {
                for (int delegated = 0; delegated < 8; delegated++) {
                    long d = (delegated & 1) << 1 | (delegated & 2) << 4 | (delegated & 4) << 7;
                    for (int mode : new int[] {0, 1, 3}) {
                        for (int variant = 0; variant < 4; variant++) {
                            long p = spread(pending);
                            long e = spread(enabled);
                            due("taken() with " + p + ", " + e + ", " + d + " in mode " + mode + ", " + variant,
                                interrupted(p, e, d, mode, variant).taken(),
                                takenDue(p & e, d, mode, (variant & 1) != 0, (variant & 2) != 0));
                        }
                    }
                }
            }
        }
        ControlDesk outside = interrupted(0, -1, 0, 3, 1);
        outside.line(9, true);
        due("taken() by line 9", outside.taken(), 9);
        outside.line(9, false);
        due("taken() without it", outside.taken(), ControlDesk.NONE);
    }

    private static void promise11Wakes() {
        for (int interrupt = 1; interrupt <= 11; interrupt += 2) {
            for (int other = 1; other <= 11; other += 2) {
                for (int mode : new int[] {0, 1, 3}) {
                    for (long delegated : new long[] {0, 546}) {
                        ControlDesk desk = interrupted(1L << interrupt, 1L << other, delegated, mode, 0);
                        due("wakes() with " + interrupt + " pending, " + other + " enabled", desk.wakes(), interrupt == other);
                    }
                }
            }
        }
        ControlDesk outside = interrupted(0, -1, 546, 3, 0);
        due("wakes() with nothing pending", outside.wakes(), false);
        outside.line(9, true);
        due("wakes() by line 9", outside.wakes(), true);
        due("taken() all the same", outside.taken(), ControlDesk.NONE);
    }

    private static void promise12Line() {
        for (int interrupt : LINES) {
            ControlDesk desk = new ControlDesk(0);
            for (boolean on : new boolean[] {false, true, true, false, false, true}) {
                desk.line(interrupt, on);
                due("836 after line(" + interrupt + ", " + on + ")", desk.peek(836), on ? 1L << interrupt : 0);
            }
            for (int other : LINES) {
                desk.line(other, true);
            }
            due("836 with all lines", desk.peek(836), 2696);
            desk.line(interrupt, false);
            due("836 without line " + interrupt, desk.peek(836), 2696 & ~(1L << interrupt));
        }
        for (int interrupt = -70; interrupt <= 80; interrupt++) {
            if (!holds(LINES, interrupt)) {
                int none = interrupt;
                throwsAndChangesNothing("line(" + none + ", true)", desk -> desk.line(none, true));
                throwsAndChangesNothing("line(" + none + ", false)", desk -> desk.line(none, false));
            }
        }
        throwsAndChangesNothing("line(MIN, true)", desk -> desk.line(Integer.MIN_VALUE, true));
        throwsAndChangesNothing("line(MAX, true)", desk -> desk.line(Integer.MAX_VALUE, true));
    }

    private static void promise13Allowed() {
        for (int variant = 0; variant < 8; variant++) {
            long tvm = (variant & 1) != 0 ? TVM : 0;
            long tw = (variant & 2) != 0 ? TW : 0;
            long tsr = (variant & 4) != 0 ? TSR : 0;
            for (int mode : new int[] {0, 1, 3}) {
                ControlDesk desk = inMode(mode, tvm | tw | tsr);
                due("allowed(WAIT) in mode " + mode, desk.allowed(ControlDesk.WAIT), mode == 3 || mode == 1 && tw == 0);
                due("allowed(FENCE) in mode " + mode, desk.allowed(ControlDesk.FENCE), mode == 3 || mode == 1 && tvm == 0);
            }
        }
        for (int what : new int[] {-1, 2, 3, Integer.MIN_VALUE, Integer.MAX_VALUE}) {
            throwsAndChangesNothing("allowed(" + what + ")", desk -> desk.allowed(what));
        }
    }

    private static void promise14Floats() {
        for (int mode : new int[] {0, 1, 3}) {
            due("floats() with all but FS", inMode(mode, ~FS_3).floats(), false);
            for (long fs : new long[] {FS_1, FS_2, FS_3}) {
                due("floats() with FS " + fs, inMode(mode, fs).floats(), true);
            }
        }
    }

    private static void promise15Dirty() {
        for (int mode : new int[] {0, 1, 3}) {
            for (long fs : new long[] {0, FS_1, FS_2, FS_3}) {
                ControlDesk desk = inMode(mode, fs | SUM);
                long before = desk.peek(768);
                desk.dirty();
                long want = fs == 0 ? before : before | FS_3 | TOP;
                due("768 after dirty() with FS " + fs, desk.peek(768), want);
            }
        }
    }

    private static void promise16Count() {
        ControlDesk desk = new ControlDesk(0);
        long cycles = 0;
        long instructions = 0;
        for (long sample : SAMPLES) {
            desk.count(sample, 3 * sample + 1);
            cycles += sample;
            instructions += 3 * sample + 1;
            due("2816", desk.peek(2816), cycles);
            due("3072", desk.peek(3072), cycles);
            due("2818", desk.peek(2818), instructions);
            due("3074", desk.peek(3074), instructions);
        }
        write(desk, 2816, -1);
        write(desk, 2818, Long.MAX_VALUE);
        desk.count(1, 1);
        due("2816 beyond its end", desk.peek(3072), 0);
        due("2818 beyond its end", desk.peek(3074), Long.MIN_VALUE);
        due("3073 is no matter of count", desk.peek(3073), 0);
        ControlDesk low = inMode(0, 0);
        low.count(5, 6);
        due("count in mode 0", low.peek(2816) * 10 + low.peek(2818), 56);
    }

    private static void promise17Time() {
        ControlDesk desk = new ControlDesk(0);
        for (long sample : SAMPLES) {
            desk.time(sample);
            due("3073", desk.peek(3073), sample);
            desk.access(3073, WRITE, false, 0);
            due("had() of 3073", desk.had(), sample);
        }
        due("a write to 3073", desk.access(3073, WRITE, true, 5), ControlDesk.ILLEGAL);
        due("3073 after it", desk.peek(3073), SAMPLES[SAMPLES.length - 1]);
        due("3072 is no matter of time", desk.peek(3072), 0);
        due("3074 is no matter of time", desk.peek(3074), 0);
    }

    public static void main(String[] args) {
        promise1NewObject();
        promise2Mode();
        promise3DataMode();
        promise4Access();
        promise5Had();
        promise6Peek();
        promise7Trap();
        promise8Back();
        promise9Place();
        promise10Taken();
        promise11Wakes();
        promise12Line();
        promise13Allowed();
        promise14Floats();
        promise15Dirty();
        promise16Count();
        promise17Time();
        System.out.println(wrong == 0 ? "all answers are as due" : wrong + " answers are not as due");
        if (wrong != 0) {
            System.exit(1);
        }
    }
}
