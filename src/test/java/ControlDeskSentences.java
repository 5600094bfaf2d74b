import java.util.Arrays;
import java.util.function.Consumer;
import java.util.function.Supplier;

/** Each sentence of the document that names an edge has a test of its own; a wrong answer is told with its sentence. */
public final class ControlDeskSentences {
    private static final int WRITE = 1, SET = 2, CLEAR = 3;
    private static final int[] OPERATIONS = {WRITE, SET, CLEAR};
    private static final int[] MODES = {0, 1, 3};
    private static final boolean[] BOTH = {false, true};

    private static final long SIE = 1L << 1, MIE = 1L << 3, SPIE = 1L << 5, MPIE = 1L << 7, SPP = 1L << 8;
    private static final long MPP_1 = 1L << 11, MPP_2 = 2L << 11, MPP_3 = 3L << 11;
    private static final long FS_1 = 1L << 13, FS_2 = 2L << 13, FS_3 = 3L << 13;
    private static final long MPRV = 1L << 17, SUM = 1L << 18, MXR = 1L << 19, TVM = 1L << 20, TW = 1L << 21, TSR = 1L << 22;
    private static final long TOP = 1L << 63;
    private static final long ALWAYS = 10L << 32, SUPERVISOR_ALWAYS = 1L << 33;
    private static final long SUPERVISOR_BITS = SIE | SPIE | SPP | FS_3 | SUM | MXR;
    private static final long MACHINE_BITS = MIE | MPIE | MPP_3 | MPRV | TVM | TW | TSR;
    private static final long STATUS_BITS = SUPERVISOR_BITS | MACHINE_BITS;
    private static final long[] ALL_FS = {0, FS_1, FS_2, FS_3};

    private static final long EXTENSIONS = TOP | 1L | 1L << 2 | 1L << 3 | 1L << 5 | 1L << 8 | 1L << 12 | 1L << 18 | 1L << 20;
    private static final long[] SUPERVISOR_SETS = {0, 2, 32, 34, 512, 514, 544, 546};
    private static final int[] LINES = {3, 7, 9, 11};

    private static final int[] HERE = {
        256, 260, 261, 262, 320, 321, 322, 323, 324, 384,
        768, 769, 770, 771, 772, 773, 774, 832, 833, 834, 835, 836,
        2816, 2818, 3072, 3073, 3074, 3857, 3858, 3859, 3860, 3861};
    private static final int[] ELSEWHERE = {
        1, 2, 3, 928, 930,
        944, 945, 946, 947, 948, 949, 950, 951, 952, 953, 954, 955, 956, 957, 958, 959};

    private static int wrong = 0;
    private static String current = "";

    private static void sentence(String words) {
        current = words;
    }

    private static void due(String what, long got, long want) {
        if (got != want) {
            wrong++;
            if (wrong <= 200) {
                System.out.println("\"" + current + "\": " + what + " answered " + got + ", due is " + want);
            }
        }
    }

    private static void due(String what, boolean got, boolean want) {
        due(what, got ? 1 : 0, want ? 1 : 0);
    }

    private static boolean holds(int[] row, int number) {
        for (int each : row) {
            if (each == number) {
                return true;
            }
        }
        return false;
    }

    /** Numbers outside of first .. last: the nearest ones, ones that a mask would bring inside, and the farthest. */
    private static int[] outside(int first, int last) {
        return new int[] {
            first - 1, first - 2, first - 64, first - 4096, Integer.MIN_VALUE, Integer.MIN_VALUE + first,
            last + 1, last + 2, last + 64, last + 4096, last + 65536, Integer.MAX_VALUE};
    }

    private static void write(ControlDesk desk, int number, long value) {
        due("access(" + number + ", 1, true, " + value + ")", desk.access(number, WRITE, true, value), ControlDesk.DONE);
    }

    /** From mode 3 to a mode by a return of the machine: MPP is 0 then, MPIE 1, MIE what MPIE was in the status. */
    private static void enter(ControlDesk desk, int mode, long status) {
        write(desk, 768, status & ~MPP_3 | (long) mode << 11);
        due("back(true)", desk.back(true), true);
        due("mode()", desk.mode(), mode);
    }

    private static ControlDesk in(int mode, long status) {
        ControlDesk desk = new ControlDesk(0);
        enter(desk, mode, status);
        return desk;
    }

    /** A desk with something in every register and behind every question, so that a change anywhere is seen. */
    private static ControlDesk busy(int mode, long status) {
        ControlDesk desk = new ControlDesk(2);
        for (int k = 0; k < HERE.length; k++) {
            if (HERE[k] < 3072 && HERE[k] != 768 && HERE[k] != 256) {
                desk.access(HERE[k], WRITE, true, 0x0123456789ABCDEFL ^ 40L * k);
            }
        }
        desk.access(836, WRITE, true, 32);
        desk.access(774, WRITE, true, 5);
        desk.access(262, WRITE, true, 6);
        desk.line(7, true);
        desk.line(9, true);
        desk.time(12345);
        desk.count(3, 4);
        enter(desk, mode, status);
        return desk;
    }

    /** All that can be asked; at the end line 9 goes off, to show what is written behind it. */
    private static long[] all(ControlDesk desk) {
        long[] answers = new long[HERE.length + 10];
        int k = 0;
        for (int number : HERE) {
            answers[k++] = desk.peek(number);
        }
        answers[k++] = desk.mode();
        answers[k++] = desk.dataMode();
        answers[k++] = desk.had();
        answers[k++] = desk.place();
        answers[k++] = desk.taken();
        answers[k++] = desk.wakes() ? 1 : 0;
        answers[k++] = desk.floats() ? 1 : 0;
        answers[k++] = desk.allowed(ControlDesk.WAIT) ? 1 : 0;
        answers[k++] = desk.allowed(ControlDesk.FENCE) ? 1 : 0;
        desk.line(9, false);
        answers[k] = desk.peek(836);
        return answers;
    }

    private static void changesNothing(String what, Supplier<ControlDesk> maker, Consumer<ControlDesk> call) {
        ControlDesk touched = maker.get();
        call.accept(touched);
        due(what + ", all else", Arrays.equals(all(touched), all(maker.get())), true);
    }

    private static final long[] BUSY_STATES = {0, SIE | SPIE | SPP | FS_1 | SUM | TW, STATUS_BITS & ~MPP_3};

    private static void refused(String what, Consumer<ControlDesk> call) {
        for (int mode : MODES) {
            for (long status : BUSY_STATES) {
                changesNothing(what, () -> busy(mode, status), desk -> {
                    Class<?> thrown = null;
                    try {
                        call.accept(desk);
                    } catch (RuntimeException e) {
                        thrown = e.getClass();
                    }
                    due(what + " throws IllegalArgumentException", thrown == IllegalArgumentException.class, true);
                });
            }
        }
    }

    // ---- Terms: modes, STATUS, interrupts

    private static void atFirst() {
        sentence("MODES are 0 (user), 1 (supervisor), 3 (machine); at first 3");
        due("mode()", new ControlDesk(0).mode(), 3);
        sentence("At first all registers are 0, unless it is said");
        for (int number : HERE) {
            long want = number == 768 ? ALWAYS : number == 256 ? SUPERVISOR_ALWAYS : number == 769 ? EXTENSIONS : 0;
            ControlDesk desk = new ControlDesk(0);
            due("peek(" + number + ")", desk.peek(number), want);
            due("access(" + number + ", 1, false, 0)", desk.access(number, WRITE, false, 0), ControlDesk.DONE);
            due("had()", desk.had(), want);
        }
    }

    private static void statusBits() {
        sentence("STATUS has the bits SIE 1, MIE 3, SPIE 5, .. TSR 22; all others are 0");
        for (int k = 0; k < 64; k++) {
            ControlDesk rising = new ControlDesk(0);
            write(rising, 768, 1L << k);
            // Bit 12 alone would be MPP 2.
            due("768 with bit " + k, rising.peek(768), (k == 12 ? 0 : 1L << k & STATUS_BITS) | ALWAYS);
            ControlDesk falling = new ControlDesk(0);
            write(falling, 768, -1);
            due("768 with all", falling.peek(768), STATUS_BITS | ALWAYS | TOP);
            write(falling, 768, ~(1L << k));
            long left = STATUS_BITS & ~(k == 11 ? 0 : 1L << k);
            due("768 without bit " + k, falling.peek(768), left | ALWAYS | (k == 13 || k == 14 ? 0 : TOP));
        }
    }

    private static void statusAlways() {
        sentence("Reading it, bits 32..35 are 10 (1 at 33 and 35)");
        for (int operation : OPERATIONS) {
            for (long operand : new long[] {0, -1, 15L << 32, ~(15L << 32), 5L << 32}) {
                ControlDesk desk = new ControlDesk(0);
                desk.access(768, operation, true, operand);
                due("bits 32..35 of 768", desk.peek(768) >>> 32 & 15, 10);
                due("bits 32..35 of 256", desk.peek(256) >>> 32 & 15, 2);
            }
        }
    }

    private static void statusTop() {
        sentence("and bit 63 is 1 if FS is 3");
        for (int number : new int[] {768, 256}) {
            long always = number == 768 ? ALWAYS : SUPERVISOR_ALWAYS;
            for (long fs : ALL_FS) {
                ControlDesk desk = new ControlDesk(0);
                write(desk, number, fs);
                long want = fs | always | (fs == FS_3 ? TOP : 0);
                due(number + " with FS " + fs, desk.peek(number), want);
                desk.access(number, SET, true, TOP);
                due(number + " after SET of bit 63", desk.peek(number), want);
                desk.access(number, CLEAR, true, TOP);
                due(number + " after CLEAR of bit 63", desk.peek(number), want);
            }
            ControlDesk desk = new ControlDesk(0);
            write(desk, number, FS_1);
            desk.access(number, SET, true, FS_2);
            due(number + " after FS 1 and 2", desk.peek(number), FS_3 | TOP | always);
            desk.access(number, CLEAR, true, FS_1);
            due(number + " after CLEAR to FS 2", desk.peek(number), FS_2 | always);
        }
    }

    private static void statusPreviousMode() {
        sentence("MPP never becomes 2: a write with 2 there leaves it");
        for (int old : MODES) {
            for (int given = 0; given < 4; given++) {
                for (int operation : OPERATIONS) {
                    int result = operation == WRITE ? given : operation == SET ? old | given : old & ~given;
                    int want = result == 2 ? old : result;
                    ControlDesk desk = new ControlDesk(0);
                    write(desk, 768, (long) old << 11);
                    desk.access(768, operation, true, (long) given << 11 | SUM);
                    due("768: MPP " + old + ", operation " + operation + " with " + given, desk.peek(768),
                        (long) want << 11 | (operation == CLEAR ? 0 : SUM) | ALWAYS);
                    desk.access(768, SET, true, MPRV);
                    due("dataMode()", desk.dataMode(), want);
                }
            }
        }
        for (int old : MODES) {
            ControlDesk desk = new ControlDesk(0);
            write(desk, 768, (long) old << 11);
            write(desk, 256, MPP_2 | SUM);
            due("768 after MPP 2 to 256", desk.peek(768), (long) old << 11 | SUM | ALWAYS);
        }
    }

    private static void pending() {
        sentence("There is a LINE for 3, 7, 9, 11, off at first");
        due("836", new ControlDesk(0).peek(836), 0);
        sentence("PENDING has bits 1, 5 and 9 as they were written, bits 3, 7, 11 as their lines; reading it, bit 9 is 1 also if its line is on");
        for (long written : SUPERVISOR_SETS) {
            for (int choice = 0; choice < 16; choice++) {
                ControlDesk desk = new ControlDesk(0);
                long on = 0;
                for (int k = 0; k < 4; k++) {
                    boolean up = (choice >> k & 1) == 1;
                    desk.line(LINES[k], up);
                    on |= up ? 1L << LINES[k] : 0;
                }
                write(desk, 836, written | 2184 & ~on);
                due("836 with " + written + " written and lines " + on, desk.peek(836), written | on);
                desk.line(9, (on & 512) == 0);
                due("836 with line 9 turned", desk.peek(836), written | on ^ 512);
                desk.line(9, false);
                due("836 without line 9", desk.peek(836), written | on & ~512L);
            }
        }
    }

    // ---- Terms: the registers

    private static void lets(int number, long mask, long fixed) {
        for (int k = 0; k < 64; k++) {
            ControlDesk desk = new ControlDesk(3);
            write(desk, number, 1L << k);
            due(number + " after WRITE of bit " + k, desk.peek(number), 1L << k & mask | fixed);
            write(desk, number, 0);
            due(number + " after WRITE of 0", desk.peek(number), fixed);
            desk.access(number, SET, true, 1L << k);
            due(number + " after SET of bit " + k, desk.peek(number), 1L << k & mask | fixed);
            write(desk, number, -1);
            due(number + " after WRITE of -1", desk.peek(number), mask | fixed);
            desk.access(number, CLEAR, true, 1L << k);
            due(number + " after CLEAR of bit " + k, desk.peek(number), mask & ~(1L << k) | fixed);
        }
    }

    private static void supervisorStatus() {
        sentence("256 the same with only SIE, SPIE, SPP, FS, SUM, MXR to be changed or seen, and bits 33 and 63 to be seen");
        for (int k = 0; k < 64; k++) {
            long bit = 1L << k;
            ControlDesk rising = new ControlDesk(0);
            write(rising, 256, bit);
            due("768 after bit " + k + " to 256", rising.peek(768), bit & SUPERVISOR_BITS | ALWAYS);
            due("256 after bit " + k, rising.peek(256), bit & SUPERVISOR_BITS | SUPERVISOR_ALWAYS);
            ControlDesk falling = new ControlDesk(0);
            write(falling, 768, -1);
            due("256 of all", falling.peek(256), SUPERVISOR_BITS | SUPERVISOR_ALWAYS | TOP);
            falling.access(256, CLEAR, true, bit);
            long top = k == 13 || k == 14 ? 0 : TOP;
            due("768 after CLEAR of bit " + k + " in 256", falling.peek(768), STATUS_BITS & ~(bit & SUPERVISOR_BITS) | ALWAYS | top);
        }
        ControlDesk desk = new ControlDesk(0);
        write(desk, 768, MACHINE_BITS);
        due("256 of the machine's bits", desk.peek(256), SUPERVISOR_ALWAYS);
        write(desk, 256, 0);
        desk.access(256, SET, true, 0);
        due("768 after 0 to 256", desk.peek(768), MACHINE_BITS | ALWAYS);
    }

    private static void masks() {
        sentence("769: 2^63 and bits 0, 2, 3, 5, 8, 12, 18, 20; writes change nothing");
        lets(769, 0, EXTENSIONS);
        sentence("770, m 46079: exceptions that are DELEGATED");
        lets(770, 46079, 0);
        sentence("771, m 546: interrupts that are");
        lets(771, 546, 0);
        sentence("772, m 2730: ENABLED");
        lets(772, 2730, 0);
        sentence("836: PENDING, m 546");
        lets(836, 546, 0);
        sentence("773 and 261: VECTORS of machine and supervisor; bit 1 is 0 always");
        lets(773, ~2L, 0);
        lets(261, ~2L, 0);
        sentence("833 and 321: PLACES, bit 0 is 0 always");
        lets(833, ~1L, 0);
        lets(321, ~1L, 0);
        sentence("832 and 320, 834 and 322 (CAUSES), 835 and 323 (VALUES): any number");
        for (int number : new int[] {832, 320, 834, 322, 835, 323}) {
            lets(number, -1, 0);
        }
        sentence("774 and 262, m 7: COUNTS that are open");
        lets(774, 7, 0);
        lets(262, 7, 0);
        sentence("2816: CYCLES. 2818: INSTRUCTIONS (any number may be written to both)");
        lets(2816, -1, 0);
        lets(2818, -1, 0);
    }

    private static void registersStandApart() {
        sentence("REGISTERS, by number");
        int[] apart = {261, 262, 320, 321, 322, 323, 384, 770, 771, 772, 773, 774, 832, 833, 834, 835, 2816, 2818};
        ControlDesk desk = new ControlDesk(1);
        for (int k = 0; k < apart.length; k++) {
            write(desk, apart[k], 1L << 40 | 4L * k | 32);
        }
        for (int k = 0; k < apart.length; k++) {
            int number = apart[k];
            long value = 1L << 40 | 4L * k | 32;
            long mask = number == 770 ? 46079 : number == 771 ? 546 : number == 772 ? 2730 : number == 774 || number == 262 ? 7 : -1;
            due("peek(" + number + ")", desk.peek(number), value & mask);
        }
        due("peek(768)", desk.peek(768), ALWAYS);
        due("peek(836)", desk.peek(836), 0);
        due("peek(3073)", desk.peek(3073), 0);
        due("peek(3860)", desk.peek(3860), 1);
    }

    private static void supervisorEnabled() {
        sentence("260: ENABLED, with 771 as m and as what is seen");
        for (long delegated : SUPERVISOR_SETS) {
            for (int k = 0; k < 64; k++) {
                long bit = 1L << k;
                ControlDesk desk = new ControlDesk(0);
                write(desk, 771, delegated);
                write(desk, 260, bit);
                due("772 after bit " + k + " to 260", desk.peek(772), bit & delegated);
                write(desk, 772, bit);
                due("260 of bit " + k, desk.peek(260), bit & delegated);
                write(desk, 772, -1);
                due("260 of all", desk.peek(260), delegated);
                desk.access(260, SET, true, 0);
                due("772 after SET of none in 260", desk.peek(772), 2730);
                desk.access(260, CLEAR, true, bit);
                due("772 after CLEAR of bit " + k + " in 260", desk.peek(772), 2730 & ~(bit & delegated));
                write(desk, 260, 0);
                due("772 after 0 to 260", desk.peek(772), 2730 & ~delegated);
                write(desk, 771, 0);
                write(desk, 772, -1);
                due("260 when nothing is delegated", desk.peek(260), 0);
            }
        }
    }

    private static void supervisorPending() {
        sentence("324: PENDING, where what is seen is what 771 has, and m is bit 1, if 771 has it");
        for (long delegated : SUPERVISOR_SETS) {
            for (int k = 0; k < 64; k++) {
                long bit = 1L << k;
                ControlDesk desk = new ControlDesk(0);
                write(desk, 771, delegated);
                write(desk, 324, bit);
                due("836 after bit " + k + " to 324", desk.peek(836), bit & delegated & 2);
                write(desk, 836, bit);
                due("324 of bit " + k, desk.peek(324), bit & delegated);
                write(desk, 836, 546);
                for (int line : LINES) {
                    desk.line(line, true);
                }
                due("324 of all", desk.peek(324), delegated);
                desk.access(324, CLEAR, true, bit);
                due("836 after CLEAR of bit " + k + " in 324", desk.peek(836), 2730 & ~(bit & delegated & 2));
                write(desk, 836, 0);
                desk.access(324, SET, true, ~2L);
                desk.line(9, false);
                due("836 after SET in 324 with line 9", desk.peek(836), 2184);
                due("324 then", desk.peek(324), 0);
            }
        }
    }

    private static void table() {
        sentence("384: the TABLE; a write whose bits 60..63 are none of 0, 8, 9 changes nothing");
        for (int old : new int[] {0, 8, 9}) {
            for (int given = 0; given < 16; given++) {
                for (int operation : OPERATIONS) {
                    long before = (long) old << 60 | 0x0F0F0F0F0F0F0F0FL;
                    long operand = (long) given << 60 | 0x00FF00FF00FF00FFL;
                    long result = operation == WRITE ? operand : operation == SET ? before | operand : before & ~operand;
                    long kind = result >>> 60;
                    ControlDesk desk = new ControlDesk(0);
                    write(desk, 384, before);
                    due("access(384, " + operation + ", true, ..)", desk.access(384, operation, true, operand), ControlDesk.DONE);
                    due("had()", desk.had(), before);
                    due("384 of " + old + ", operation " + operation + " with " + given, desk.peek(384),
                        kind == 0 || kind == 8 || kind == 9 ? result : before);
                }
            }
        }
        lets384LowBits();
    }

    private static void lets384LowBits() {
        for (int k = 0; k < 60; k++) {
            ControlDesk desk = new ControlDesk(0);
            write(desk, 384, 1L << k);
            due("384 with bit " + k, desk.peek(384), 1L << k);
            write(desk, 384, 9L << 60 | 1L << k);
            due("384 of kind 9 with bit " + k, desk.peek(384), 9L << 60 | 1L << k);
        }
    }

    private static void readOnlyRegisters() {
        sentence("3857, 3858, 3859, 3861: 0. 3860: the number of the processor");
        for (int processor = 0; processor <= 3; processor++) {
            ControlDesk desk = new ControlDesk(processor);
            for (int number = 3857; number <= 3861; number++) {
                due("access(" + number + ", 1, false, 9)", desk.access(number, WRITE, false, 9), ControlDesk.DONE);
                due("had() of " + number, desk.had(), number == 3860 ? processor : 0);
                due("access(" + number + ", 1, true, 9)", desk.access(number, WRITE, true, 9), ControlDesk.ILLEGAL);
                due("peek(" + number + ")", desk.peek(number), number == 3860 ? processor : 0);
            }
        }
        sentence("3072, 3073, 3074: CYCLES, the TIME, INSTRUCTIONS");
        ControlDesk desk = new ControlDesk(0);
        write(desk, 2816, 11);
        write(desk, 2818, 13);
        desk.time(12);
        desk.count(100, 200);
        for (int k = 0; k < 3; k++) {
            long want = k == 0 ? 111 : k == 1 ? 12 : 213;
            due("peek(" + (3072 + k) + ")", desk.peek(3072 + k), want);
            desk.access(3072 + k, SET, false, -1);
            due("had()", desk.had(), want);
        }
    }

    private static void noOthers() {
        sentence("all told here are there, no others");
        for (int number = 0; number <= 4095; number++) {
            boolean here = holds(HERE, number);
            boolean elsewhere = holds(ELSEWHERE, number);
            for (int operation : OPERATIONS) {
                int want = here ? ControlDesk.DONE : elsewhere ? ControlDesk.ELSEWHERE : ControlDesk.ILLEGAL;
                ControlDesk desk = new ControlDesk(0);
                write(desk, 768, FS_1);
                due("access(" + number + ", " + operation + ", false, 0)", desk.access(number, operation, false, 0), want);
                if (!here) {
                    due("peek(" + number + ")", desk.peek(number), 0);
                }
            }
        }
    }

    // ---- Terms: ACCESS

    private static void operations() {
        sentence("ACCESS to a register by an operation 1 (WRITE), 2 (SET: what it has | the operand), 3 (CLEAR: what it has & ~operand)");
        long[] samples = {0, -1, 5, 6, TOP, Long.MAX_VALUE, 0x5555555555555555L};
        for (long old : samples) {
            for (long operand : samples) {
                ControlDesk desk = new ControlDesk(0);
                write(desk, 320, old);
                desk.access(320, SET, true, operand);
                due(old + " SET " + operand, desk.peek(320), old | operand);
                due("had()", desk.had(), old);
                write(desk, 320, old);
                desk.access(320, CLEAR, true, operand);
                due(old + " CLEAR " + operand, desk.peek(320), old & ~operand);
                due("had()", desk.had(), old);
                write(desk, 320, operand);
                due(old + " WRITE " + operand, desk.peek(320), operand);
            }
        }
        sentence("with a write or without (then it is read alone)");
        for (int number : HERE) {
            for (int operation : OPERATIONS) {
                for (long operand : new long[] {0, -1, 4660}) {
                    ControlDesk desk = busy(3, BUSY_STATES[1]);
                    long shown = desk.peek(number);
                    due("access(" + number + ", " + operation + ", false, ..)", desk.access(number, operation, false, operand), ControlDesk.DONE);
                    due("had()", desk.had(), shown);
                    ControlDesk same = busy(3, BUSY_STATES[1]);
                    same.access(number, SET, false, 0);
                    due("all else", Arrays.equals(all(desk), all(same)), true);
                }
            }
        }
    }

    private static int lowestMode(int number) {
        return number / 256 % 4;
    }

    private static void illegalByMode() {
        sentence("It is ILLEGAL .. if bits 8..9 of its number are above the mode");
        for (int mode : MODES) {
            for (int[] row : new int[][] {HERE, ELSEWHERE}) {
                int open = row == HERE ? ControlDesk.DONE : ControlDesk.ELSEWHERE;
                for (int number : row) {
                    ControlDesk desk = new ControlDesk(0);
                    write(desk, 774, 7);
                    write(desk, 262, 7);
                    enter(desk, mode, FS_1);
                    due("access(" + number + ", 2, false, 0) in mode " + mode, desk.access(number, SET, false, 0),
                        lowestMode(number) > mode ? ControlDesk.ILLEGAL : open);
                }
            }
        }
    }

    private static void illegalByWrite() {
        sentence("It is ILLEGAL .. if there is a write and bits 10..11 of its number are 3");
        for (int operation : OPERATIONS) {
            for (int number : HERE) {
                due("access(" + number + ", " + operation + ", true, 0)", new ControlDesk(0).access(number, operation, true, 0),
                    number >= 3072 ? ControlDesk.ILLEGAL : ControlDesk.DONE);
                due("access(" + number + ", " + operation + ", false, 0)", new ControlDesk(0).access(number, operation, false, 0), ControlDesk.DONE);
            }
        }
    }

    private static void illegalTable() {
        sentence("It is ILLEGAL .. for 384 in mode 1 with TVM");
        for (int mode : MODES) {
            for (long status : new long[] {0, TVM, TW, TSR, TVM | TW | TSR}) {
                for (boolean writes : BOTH) {
                    boolean legal = mode == 3 || mode == 1 && (status & TVM) == 0;
                    due("access(384, 1, " + writes + ", 0) in mode " + mode, in(mode, status).access(384, WRITE, writes, 0),
                        legal ? ControlDesk.DONE : ControlDesk.ILLEGAL);
                    due("access(320, 1, " + writes + ", 0) in mode " + mode, in(mode, status).access(320, WRITE, writes, 0),
                        mode > 0 ? ControlDesk.DONE : ControlDesk.ILLEGAL);
                }
            }
        }
    }

    private static void illegalFloats() {
        sentence("It is ILLEGAL .. for 1, 2, 3 with FS 0");
        for (int mode : MODES) {
            for (long fs : ALL_FS) {
                for (boolean writes : BOTH) {
                    for (int number : ELSEWHERE) {
                        boolean legal = lowestMode(number) <= mode && (number > 3 || fs != 0);
                        ControlDesk desk = in(mode, fs | STATUS_BITS & ~FS_3);
                        due("access(" + number + ", 3, " + writes + ", 0) in mode " + mode + " with FS " + fs,
                            desk.access(number, CLEAR, writes, 0), legal ? ControlDesk.ELSEWHERE : ControlDesk.ILLEGAL);
                        due("floats() then", desk.floats(), fs != 0);
                    }
                }
            }
        }
    }

    private static void illegalCounts() {
        sentence("It is ILLEGAL .. for 3072 + k in mode 0 or 1 if bit k of 774 is 0, and in mode 0 if bit k of 262 is 0");
        for (int machine = 0; machine < 8; machine++) {
            for (int supervisor = 0; supervisor < 8; supervisor++) {
                for (int mode : MODES) {
                    int open = mode == 3 ? 7 : mode == 1 ? machine : machine & supervisor;
                    for (int k = 0; k < 3; k++) {
                        ControlDesk desk = new ControlDesk(0);
                        write(desk, 774, machine);
                        write(desk, 262, supervisor);
                        enter(desk, mode, 0);
                        due("access(" + (3072 + k) + ", 1, false, 0) in mode " + mode + " with " + machine + " and " + supervisor,
                            desk.access(3072 + k, WRITE, false, 0), (open >> k & 1) == 1 ? ControlDesk.DONE : ControlDesk.ILLEGAL);
                    }
                }
            }
        }
    }

    private static void illegalChangesNothing() {
        sentence("or ILLEGAL, changing nothing");
        int seen = 0;
        for (int mode : MODES) {
            for (int number = 0; number <= 4095; number++) {
                for (boolean writes : BOTH) {
                    int which = number;
                    int operation = 1 + number % 3;
                    boolean told = holds(HERE, number) || holds(ELSEWHERE, number);
                    for (long status : told ? BUSY_STATES : new long[] {BUSY_STATES[number % 3]}) {
                        if (busy(mode, status).access(number, operation, writes, 6) == ControlDesk.ILLEGAL) {
                            seen++;
                            changesNothing("access(" + number + ", " + operation + ", " + writes + ", 6) in mode " + mode,
                                () -> busy(mode, status), desk -> desk.access(which, operation, writes, 6));
                        }
                    }
                }
            }
        }
        due("whether illegal ones were seen", seen > 6 * 4000, true);
    }

    private static void whatItHas() {
        sentence("What it has, for SET and CLEAR, is what reading shows, but for bit 9 of 836, without its line");
        for (boolean on : BOTH) {
            for (long written : SUPERVISOR_SETS) {
                for (long operand : new long[] {0, 2, 32, 512, 546, -1, ~512L}) {
                    ControlDesk desk = new ControlDesk(0);
                    write(desk, 836, written);
                    desk.line(9, on);
                    desk.access(836, SET, true, operand);
                    due("836 after SET", desk.peek(836), (written | operand) & 546 | (on ? 512 : 0));
                    desk.line(9, false);
                    due("836 after SET, without line 9", desk.peek(836), (written | operand) & 546);
                    write(desk, 836, written);
                    desk.line(9, on);
                    desk.access(836, CLEAR, true, operand);
                    due("836 after CLEAR", desk.peek(836), written & ~operand | (on ? 512 : 0));
                    desk.line(9, false);
                    due("836 after CLEAR, without line 9", desk.peek(836), written & ~operand);
                }
            }
        }
        ControlDesk desk = new ControlDesk(0);
        desk.line(9, true);
        write(desk, 836, 0);
        due("836 after WRITE of 0 with line 9", desk.peek(836), 512);
        write(desk, 836, 512);
        desk.line(9, false);
        due("836 after WRITE of 512 with line 9", desk.peek(836), 512);
    }

    private static void floatWrites() {
        sentence("A write to 1, 2, 3 makes FS 3");
        for (int mode : MODES) {
            for (int number : ELSEWHERE) {
                for (int operation : OPERATIONS) {
                    for (long fs : new long[] {FS_1, FS_2, FS_3}) {
                        for (boolean writes : BOTH) {
                            ControlDesk desk = in(mode, fs | SUM | TW);
                            long before = desk.peek(768);
                            boolean legal = lowestMode(number) <= mode;
                            due("access(" + number + ", " + operation + ", " + writes + ", 0) in mode " + mode,
                                desk.access(number, operation, writes, 0), legal ? ControlDesk.ELSEWHERE : ControlDesk.ILLEGAL);
                            due("768 then", desk.peek(768), writes && number <= 3 ? before | FS_3 | TOP : before);
                        }
                    }
                }
            }
        }
        sentence("nothing is read or written here but FS");
        for (int number : ELSEWHERE) {
            for (boolean writes : BOTH) {
                for (long operand : new long[] {0, -1}) {
                    changesNothing("access(" + number + ", 1, " + writes + ", " + operand + ")", () -> busy(3, FS_3 | SUM),
                        desk -> desk.access(number, WRITE, writes, operand));
                }
            }
        }
    }

    // ---- Terms: TRAP

    private static ControlDesk trapping(int mode, long exceptions, long interrupts, long status) {
        ControlDesk desk = new ControlDesk(0);
        write(desk, 770, exceptions);
        write(desk, 771, interrupts);
        write(desk, 261, 0x20000);
        write(desk, 773, 0x30000);
        for (int k = 1; k <= 3; k++) {
            write(desk, 320 + k, -20 - 2 * k);
            write(desk, 832 + k, -30 - 2 * k);
        }
        enter(desk, mode, status);
        return desk;
    }

    private static void trapGoesTo() {
        sentence("If the mode is 0 or 1 and bit c of 771 (of 770, for an exception) is 1, it goes to the SUPERVISOR .. Otherwise to the MACHINE");
        for (int mode : MODES) {
            for (int delegated = 0; delegated < 64; delegated++) {
                for (int cause = 0; cause < 64; cause++) {
                    long bit = 1L << delegated;
                    boolean same = mode < 3 && delegated == cause;
                    due("an exception " + cause + " with 770 " + bit + ", in mode " + mode,
                        trapping(mode, bit, -1, 0).trap(false, cause, 0, 0), same && (46079 & bit) != 0 ? 0x20000 : 0x30000);
                    due("an interrupt " + cause + " with 771 " + bit + ", in mode " + mode,
                        trapping(mode, -1, bit, 0).trap(true, cause, 0, 0), same && (546 & bit) != 0 ? 0x20000 : 0x30000);
                }
            }
        }
    }

    private static void trapLeaves() {
        sentence("321 gets p, 322 c (and bit 63 for an interrupt), 323 v .. likewise 833, 834, 835");
        for (int mode : MODES) {
            for (boolean interrupt : BOTH) {
                for (boolean delegates : BOTH) {
                    for (int cause : new int[] {0, 1, 5, 9, 15, 16, 62, 63}) {
                        for (long p : new long[] {0, 1, -1, TOP, 1000, 1001, 1003}) {
                            ControlDesk desk = trapping(mode, delegates ? -1 : 0, delegates ? -1 : 0, 0);
                            boolean low = mode < 3 && delegates && ((interrupt ? 546 : 46079) >>> cause & 1) == 1 && cause < 32;
                            desk.trap(interrupt, cause, ~p, p);
                            int got = low ? 320 : 832;
                            int kept = low ? 832 : 320;
                            String what = "trap(" + interrupt + ", " + cause + ", .., " + p + ") in mode " + mode;
                            due(what + ": mode", desk.mode(), low ? 1 : 3);
                            due(what + ": place", desk.peek(got + 1), p & ~1L);
                            due(what + ": cause", desk.peek(got + 2), interrupt ? cause | TOP : cause);
                            due(what + ": value", desk.peek(got + 3), ~p);
                            for (int k = 1; k <= 3; k++) {
                                due(what + ": " + (kept + k), desk.peek(kept + k), (low ? -30 : -20) - 2 * k);
                            }
                        }
                    }
                }
            }
        }
    }

    private static void trapStatus() {
        sentence("SPP becomes 1 if the mode was 1, else 0, SPIE becomes SIE, SIE 0; the mode is 1");
        for (int choice = 0; choice < 32; choice++) {
            long status = (choice & 1) * SIE | (choice >> 1 & 1) * SPIE | (choice >> 2 & 1) * SPP | (choice >> 3 & 1) * MPIE | FS_2 | MXR | TVM | TSR;
            int mode = choice >> 4;
            ControlDesk desk = trapping(mode, -1, -1, status);
            long before = desk.peek(768);
            desk.trap(choice % 3 == 0, 1, 0, 0);
            due("768 after a trap from mode " + mode, desk.peek(768),
                before & ~(SIE | SPIE | SPP) | ((before & SIE) != 0 ? SPIE : 0) | (mode == 1 ? SPP : 0));
            due("mode()", desk.mode(), 1);
        }
        sentence("MPP becomes the mode, MPIE MIE, MIE 0; the mode is 3");
        for (int choice = 0; choice < 32; choice++) {
            for (int mode : MODES) {
                long status = (choice & 1) * SIE | (choice >> 1 & 1) * SPIE | (choice >> 2 & 1) * SPP | (choice >> 3 & 1) * MPIE | (choice >> 4) * MPRV
                    | (choice % 2 == 0 ? FS_1 | SUM | TW : FS_2 | MXR | TVM | TSR);
                ControlDesk desk = trapping(mode, 0, 0, status);
                long before = desk.peek(768);
                desk.trap(choice % 3 == 0, 1, 0, 0);
                due("768 after a trap from mode " + mode, desk.peek(768),
                    before & ~(MIE | MPIE | MPP_3) | ((before & MIE) != 0 ? MPIE : 0) | (long) mode << 11);
                due("mode()", desk.mode(), 3);
            }
        }
        // A return of the supervisor leaves MPP, so that a trap finds an old one there.
        for (long spp : new long[] {0, SPP}) {
            for (int old : MODES) {
                ControlDesk desk = new ControlDesk(0);
                write(desk, 768, (long) old << 11 | spp);
                due("back(false)", desk.back(false), true);
                desk.trap(false, 0, 0, 0);
                due("768 after a trap over MPP " + old, desk.peek(768), SPIE | (spp == 0 ? 0 : MPP_1) | ALWAYS);
            }
        }
        ControlDesk twice = in(3, MPIE);
        twice.trap(false, 0, 0, 0);
        twice.trap(false, 0, 0, 0);
        due("768 after two traps", twice.peek(768), MPP_3 | ALWAYS);
    }

    private static void trapGoesOn() {
        sentence("It goes on at the vectors' number (261 or 773) without bits 0 and 1, and 4 c more for an interrupt if bit 0 of them is 1");
        for (int mode : new int[] {1, 3}) {
            for (long vectors : new long[] {0, 1, 2, 3, 4096, 4097, 4098, 4099, -1, -2, -3, -4, TOP, TOP | 1, Long.MAX_VALUE, Long.MAX_VALUE - 3}) {
                for (int cause = 0; cause < 64; cause++) {
                    for (boolean interrupt : BOTH) {
                        boolean low = mode == 1 && cause < 32 && ((interrupt ? 546 : 46079) >>> cause & 1) == 1;
                        ControlDesk desk = new ControlDesk(0);
                        write(desk, 770, -1);
                        write(desk, 771, -1);
                        write(desk, 261, low ? vectors : 777);
                        write(desk, 773, low ? 777 : vectors);
                        enter(desk, mode, 0);
                        long want = (vectors & ~3L) + (interrupt && (vectors & 1) == 1 ? 4L * cause : 0);
                        due("trap(" + interrupt + ", " + cause + ", ..) with vectors " + vectors, desk.trap(interrupt, cause, 0, 0), want);
                        due("place()", desk.place(), want);
                    }
                }
            }
        }
    }

    // ---- Terms: RETURN

    private static void machineReturn() {
        sentence("A RETURN of the machine, in mode 3: MIE becomes MPIE, MPIE 1; the mode is MPP, MPP becomes 0; it goes on at 833");
        for (int choice = 0; choice < 64; choice++) {
            for (int previous : MODES) {
                long status = (choice & 1) * MIE | (choice >> 1 & 1) * MPIE | (choice >> 2 & 1) * MPRV
                    | (choice >> 3 & 1) * SIE | (choice >> 4 & 1) * SPIE | (choice >> 5) * (SPP | TSR) | FS_2 | MXR;
                ControlDesk desk = new ControlDesk(0);
                write(desk, 833, 5003);
                write(desk, 321, 7003);
                write(desk, 768, status | (long) previous << 11);
                due("back(true)", desk.back(true), true);
                due("mode()", desk.mode(), previous);
                due("place()", desk.place(), 5002);
                long gone = MIE | (previous == 3 ? 0 : MPRV);
                due("768", desk.peek(768), status & ~gone | MPIE | ((status & MPIE) != 0 ? MIE : 0) | ALWAYS);
            }
        }
    }

    private static void supervisorReturn() {
        sentence("Of the supervisor, in mode 3, or 1 without TSR: SIE becomes SPIE, SPIE 1; the mode is SPP, SPP becomes 0; it goes on at 321");
        for (int choice = 0; choice < 64; choice++) {
            for (int mode : MODES) {
                long status = (choice & 1) * SIE | (choice >> 1 & 1) * SPIE | (choice >> 2 & 1) * SPP
                    | (choice >> 3 & 1) * TSR | (choice >> 4 & 1) * MPRV | (choice >> 5) * (MPIE | TVM | TW) | FS_1 | SUM;
                ControlDesk desk = new ControlDesk(0);
                write(desk, 833, 5003);
                write(desk, 321, 7003);
                enter(desk, mode, status);
                long before = desk.peek(768);
                boolean legal = mode == 3 || mode == 1 && (status & TSR) == 0;
                due("back(false) in mode " + mode, desk.back(false), legal);
                due("mode()", desk.mode(), !legal ? mode : (status & SPP) != 0 ? 1 : 0);
                due("place()", desk.place(), legal ? 7002 : 5002);
                long after = before & ~(SIE | SPP | MPRV) | SPIE | ((before & SPIE) != 0 ? SIE : 0);
                due("768", desk.peek(768), legal ? after : before);
            }
        }
    }

    private static void returnEdges() {
        sentence("In both, MPRV becomes 0 if the new mode is not 3");
        for (int previous : MODES) {
            ControlDesk desk = new ControlDesk(0);
            write(desk, 768, MPRV | (long) previous << 11);
            desk.back(true);
            due("MPRV after a return of the machine to " + previous, desk.peek(768) & MPRV, previous == 3 ? MPRV : 0);
        }
        for (long spp : new long[] {0, SPP}) {
            ControlDesk desk = new ControlDesk(0);
            write(desk, 768, MPRV | MPP_3 | spp);
            desk.back(false);
            due("768 after a return of the supervisor", desk.peek(768), MPP_3 | SPIE | ALWAYS);
            due("dataMode()", desk.dataMode(), spp == 0 ? 0 : 1);
        }
        sentence("Otherwise it is ILLEGAL; false, changing nothing, when it is ILLEGAL");
        for (long status : BUSY_STATES) {
            for (int mode : new int[] {0, 1}) {
                due("back(true) in mode " + mode, busy(mode, status).back(true), false);
                changesNothing("back(true) in mode " + mode, () -> busy(mode, status), desk -> desk.back(true));
            }
            due("back(false) in mode 0", busy(0, status).back(false), false);
            changesNothing("back(false) in mode 0", () -> busy(0, status), desk -> desk.back(false));
            due("back(false) in mode 1 with TSR", busy(1, status | TSR).back(false), false);
            changesNothing("back(false) in mode 1 with TSR", () -> busy(1, status | TSR), desk -> desk.back(false));
        }
    }

    private static void thereAndBack() {
        sentence("A TRAP and a RETURN, one after the other");
        for (int mode : MODES) {
            for (boolean enabled : BOTH) {
                ControlDesk desk = trapping(mode, 0, 0, enabled ? MPIE : 0);
                desk.trap(false, 3, 0, 4441);
                due("back(true)", desk.back(true), true);
                due("mode()", desk.mode(), mode);
                due("place()", desk.place(), 4440);
                due("768", desk.peek(768), MPIE | (enabled ? MIE : 0) | ALWAYS);
            }
        }
        for (int mode : new int[] {0, 1}) {
            for (boolean enabled : BOTH) {
                ControlDesk desk = trapping(mode, -1, -1, enabled ? SIE : 0);
                desk.trap(true, 5, 0, 4441);
                due("back(false)", desk.back(false), true);
                due("mode()", desk.mode(), mode);
                due("place()", desk.place(), 4440);
                due("768", desk.peek(768), MPIE | SPIE | (enabled ? SIE : 0) | ALWAYS);
            }
        }
    }

    // ---- Terms: TO BE TAKEN

    private static ControlDesk asked(long pending, long enabled, long delegated, int mode, long status) {
        ControlDesk desk = new ControlDesk(0);
        write(desk, 771, delegated);
        write(desk, 772, enabled);
        write(desk, 836, pending & 34);
        for (int line : LINES) {
            desk.line(line, (pending >>> line & 1) == 1);
        }
        enter(desk, mode, status);
        return desk;
    }

    private static void takenAlone() {
        sentence("TO BE TAKEN is an interrupt that is pending (as it is read) and enabled");
        for (int interrupt = 1; interrupt <= 11; interrupt += 2) {
            long bit = 1L << interrupt;
            due("taken()", asked(bit, bit, 0, 0, 0).taken(), interrupt);
            due("taken() when the others are enabled", asked(bit, ~bit, 0, 0, 0).taken(), ControlDesk.NONE);
            due("taken() when the others are pending", asked(~bit, bit, 0, 0, 0).taken(), ControlDesk.NONE);
        }
        ControlDesk nine = asked(0, -1, 0, 0, 0);
        due("taken() of nothing", nine.taken(), ControlDesk.NONE);
        nine.line(9, true);
        due("taken() by line 9", nine.taken(), 9);
        nine.line(9, false);
        due("taken() after line 9", nine.taken(), ControlDesk.NONE);
        ControlDesk written = new ControlDesk(0);
        write(written, 836, 512);
        write(written, 772, 512);
        enter(written, 0, 0);
        due("taken() by bit 9 as written", written.taken(), 9);
    }

    private static void takenByMode() {
        sentence("one that is not delegated (771): in mode 0 or 1, or in mode 3 with MIE; one that is delegated: in mode 0, or in mode 1 with SIE");
        for (int interrupt = 1; interrupt <= 11; interrupt += 2) {
            long bit = 1L << interrupt;
            for (long delegated : SUPERVISOR_SETS) {
                for (int mode : MODES) {
                    for (int choice = 0; choice < 4; choice++) {
                        boolean mie = (choice & 1) != 0;
                        boolean sie = (choice & 2) != 0;
                        // A return makes MIE of MPIE; SPIE stands where SIE does not, to tell the two apart.
                        ControlDesk desk = asked(bit, bit, delegated, mode, (mie ? MPIE : 0) | (sie ? SIE : SPIE));
                        boolean goes = (delegated & bit) == 0 ? mode < 3 || mie : mode == 0 || mode == 1 && sie;
                        due("taken() of " + interrupt + " with 771 " + delegated + " in mode " + mode + ", MIE " + mie + ", SIE " + sie,
                            desk.taken(), goes ? interrupt : ControlDesk.NONE);
                        due("wakes()", desk.wakes(), true);
                    }
                }
            }
        }
    }

    private static void takenInOrder() {
        sentence("Those not delegated come first, and among like ones this is the order: 11, 3, 7, 9, 1, 5");
        int[] order = {11, 3, 7, 9, 1, 5};
        for (int first = 0; first < 6; first++) {
            long later = 0;
            for (int k = first; k < 6; k++) {
                later |= 1L << order[k];
            }
            due("taken() of " + later, asked(later, -1, 0, 0, 0).taken(), order[first]);
            due("taken() of " + later + " enabled", asked(-1, later, 0, 1, 0).taken(), order[first]);
            if (first >= 3) {
                due("taken() of delegated " + later, asked(later, -1, 546, 0, 0).taken(), order[first]);
            }
        }
        for (int a = 0; a < 6; a++) {
            for (int b = a + 1; b < 6; b++) {
                for (long delegated : SUPERVISOR_SETS) {
                    boolean firstLow = (delegated >>> order[a] & 1) == 1;
                    boolean secondLow = (delegated >>> order[b] & 1) == 1;
                    long two = 1L << order[a] | 1L << order[b];
                    due("taken() of " + order[a] + " and " + order[b] + " with 771 " + delegated,
                        asked(two, two, delegated, 0, 0).taken(), firstLow && !secondLow ? order[b] : order[a]);
                }
            }
        }
    }

    private static void wakes() {
        sentence("Whether some interrupt is pending and enabled, whatever else");
        for (long delegated : new long[] {0, 546}) {
            for (int mode : MODES) {
                for (int interrupt = 1; interrupt <= 11; interrupt += 2) {
                    long bit = 1L << interrupt;
                    due("wakes() by " + interrupt, asked(bit, bit, delegated, mode, 0).wakes(), true);
                    due("wakes() by " + interrupt + " when all else is enabled", asked(bit, ~bit, delegated, mode, 0).wakes(), false);
                    due("wakes() by " + interrupt + " when all else is pending", asked(~bit, bit, delegated, mode, 0).wakes(), false);
                }
                due("wakes() by nothing", asked(0, -1, delegated, mode, SIE | MPIE).wakes(), false);
            }
        }
    }

    // ---- The promises

    private static void newObject() {
        sentence("the number of the processor is 0 .. 3 (0 if it is none of these)");
        for (int number : new int[] {Integer.MIN_VALUE, -4, -3, -2, -1, 0, 1, 2, 3, 4, 5, 6, 7, 8, 257, 65537, Integer.MAX_VALUE}) {
            due("3860 of new ControlDesk(" + number + ")", new ControlDesk(number).peek(3860), number >= 0 && number <= 3 ? number : 0);
        }
    }

    private static void dataMode() {
        sentence("MPP if MPRV is 1, else the mode");
        for (int previous : MODES) {
            ControlDesk desk = new ControlDesk(0);
            write(desk, 768, (long) previous << 11);
            due("dataMode()", desk.dataMode(), 3);
            desk.access(768, SET, true, MPRV);
            due("dataMode() with MPRV and MPP " + previous, desk.dataMode(), previous);
            due("mode() all the same", desk.mode(), 3);
        }
        for (int mode : MODES) {
            ControlDesk desk = in(mode, MPRV);
            due("dataMode() after a return to " + mode, desk.dataMode(), mode == 3 ? 0 : mode);
            desk.trap(false, 3, 0, 0);
            due("dataMode() after a trap", desk.dataMode(), 3);
        }
    }

    private static void accessRefused() {
        sentence("(number 0 .. 4095, operation 1 .. 3) .. IllegalArgumentException");
        for (boolean writes : BOTH) {
            for (int number : outside(0, 4095)) {
                refused("access(" + number + ", 1, " + writes + ", 6)", desk -> desk.access(number, WRITE, writes, 6));
            }
            for (int operation : outside(1, 3)) {
                for (int number : new int[] {0, 1, 320, 768, 928, 3072, 4095}) {
                    refused("access(" + number + ", " + operation + ", " + writes + ", 6)", desk -> desk.access(number, operation, writes, 6));
                }
            }
        }
        refused("access(-1, 0, true, 6)", desk -> desk.access(-1, 0, true, 6));
        refused("access(4096, 4, true, 6)", desk -> desk.access(4096, 4, true, 6));
        for (int number : new int[] {0, 4095}) {
            for (int operation : OPERATIONS) {
                due("access(" + number + ", " + operation + ", false, 0)", new ControlDesk(0).access(number, operation, false, 0), ControlDesk.ILLEGAL);
            }
        }
    }

    private static void had() {
        sentence("What the register had when it was accessed last with DONE; 0 at first");
        due("had()", new ControlDesk(0).had(), 0);
        ControlDesk desk = new ControlDesk(0);
        desk.access(4095, WRITE, true, 1);
        due("had() after ILLEGAL alone", desk.had(), 0);
        write(desk, 832, 77);
        due("had() of a first write", desk.had(), 0);
        write(desk, 832, 78);
        due("had() of a second write", desk.had(), 77);
        desk.access(832, SET, false, 1);
        due("had() of a read", desk.had(), 78);
        desk.access(769, CLEAR, true, -1);
        due("had() of 769", desk.had(), EXTENSIONS);
        write(desk, 832, 1);
        due("had() before it is kept", desk.had(), 78);
        keptHad(desk);
    }

    private static void keptHad(ControlDesk desk) {
        desk.access(944, WRITE, true, 5);
        due("had() after ELSEWHERE", desk.had(), 78);
        desk.access(1, WRITE, false, 5);
        due("had() after ILLEGAL", desk.had(), 78);
        for (int number : new int[] {-1, 4096, 832}) {
            try {
                desk.access(number, number == 832 ? 4 : WRITE, true, 5);
                due("whether access(" + number + ", ..) was refused", false, true);
            } catch (IllegalArgumentException e) {
                due("had() after a refused call", desk.had(), 78);
            }
        }
        desk.trap(false, 2, 3, 4);
        desk.back(true);
        desk.peek(769);
        desk.count(1, 1);
        desk.time(3);
        desk.line(9, true);
        desk.dirty();
        due("had() after other calls", desk.had(), 78);
    }

    private static void peek() {
        sentence("What reading a register shows, whatever the mode; 0 when there is none such, or it is ELSEWHERE");
        for (int mode : MODES) {
            for (int first = -400; first < 4800; first += 400) {
                ControlDesk desk = busy(mode, FS_3);
                for (int number = first; number < first + 400; number++) {
                    if (!holds(HERE, number)) {
                        due("peek(" + number + ")", desk.peek(number), 0);
                    }
                }
            }
            ControlDesk desk = busy(mode, FS_3);
            ControlDesk machine = busy(mode, FS_3);
            if (mode != 3) {
                // This one is never delegated.
                machine.trap(false, 63, 0, 0);
            }
            for (int number : HERE) {
                boolean fromTrap = mode != 3 && (number >= 833 && number <= 835 || number == 768);
                due("access(" + number + ", 1, false, 0)", machine.access(number, WRITE, false, 0), ControlDesk.DONE);
                if (!fromTrap) {
                    due("peek(" + number + ") in mode " + mode, desk.peek(number), machine.had());
                }
                int far = number + 4096;
                due("peek(" + far + ")", desk.peek(far), 0);
                due("peek(" + (number - 65536) + ")", desk.peek(number - 65536), 0);
            }
            due("peek(MIN)", desk.peek(Integer.MIN_VALUE), 0);
            due("peek(MIN + 768)", desk.peek(Integer.MIN_VALUE + 768), 0);
            due("peek(MAX)", desk.peek(Integer.MAX_VALUE), 0);
        }
        changesNothing("peek", () -> busy(1, FS_1), desk -> desk.peek(1));
    }

    private static void trapRefused() {
        sentence("IllegalArgumentException when cause is not 0 .. 63");
        for (int cause : outside(0, 63)) {
            refused("trap(true, " + cause + ", 1, 2)", desk -> desk.trap(true, cause, 1, 2));
            refused("trap(false, " + cause + ", 1, 2)", desk -> desk.trap(false, cause, 1, 2));
        }
        for (int cause : new int[] {0, 63}) {
            ControlDesk desk = new ControlDesk(0);
            write(desk, 773, 4097);
            due("trap(true, " + cause + ", 1, 2)", desk.trap(true, cause, 1, 2), 4096 + 4L * cause);
            due("834", desk.peek(834), cause | TOP);
            due("trap(false, " + cause + ", 1, 2)", desk.trap(false, cause, 1, 2), 4096);
            due("834", desk.peek(834), cause);
        }
    }

    private static void place() {
        sentence("Where the latest trap or return went on; 0 at first");
        due("place()", new ControlDesk(0).place(), 0);
        ControlDesk desk = new ControlDesk(0);
        write(desk, 773, 4096);
        write(desk, 833, 600);
        write(desk, 321, 700);
        due("place() before any trap", desk.place(), 0);
        desk.trap(false, 1, 2, 801);
        due("place() after a trap", desk.place(), 4096);
        write(desk, 773, 8192);
        due("place() after a later write", desk.place(), 4096);
        try {
            desk.trap(false, 64, 2, 3);
            due("whether trap(false, 64, ..) was refused", false, true);
        } catch (IllegalArgumentException e) {
            due("place() after a refused trap", desk.place(), 4096);
        }
        write(desk, 768, MPP_1);
        due("back(true)", desk.back(true), true);
        due("place() after a return of the machine", desk.place(), 800);
        due("back(true)", desk.back(true), false);
        due("place() after an illegal return", desk.place(), 800);
        due("back(false)", desk.back(false), true);
        due("place() after a return of the supervisor", desk.place(), 700);
        desk.trap(true, 1, 2, 3);
        due("place() after the latest trap", desk.place(), 8192);
    }

    private static void line() {
        sentence("A line goes on or off. IllegalArgumentException when there is none such");
        for (int interrupt : LINES) {
            ControlDesk desk = new ControlDesk(0);
            for (boolean on : new boolean[] {false, true, true, false, false, true}) {
                desk.line(interrupt, on);
                due("836 after line(" + interrupt + ", " + on + ")", desk.peek(836), on ? 1L << interrupt : 0);
            }
        }
        for (int interrupt = -64; interrupt <= 128; interrupt++) {
            if (!holds(LINES, interrupt)) {
                lineRefused(interrupt);
            }
        }
        for (int interrupt : outside(3, 11)) {
            if (!holds(LINES, interrupt)) {
                lineRefused(interrupt);
            }
        }
    }

    private static void lineRefused(int interrupt) {
        for (boolean on : BOTH) {
            refused("line(" + interrupt + ", " + on + ")", desk -> desk.line(interrupt, on));
        }
    }

    private static void allowed() {
        sentence("Whether it is allowed to WAIT (in mode 3, or 1 without TW), or to FENCE (in mode 3, or 1 without TVM)");
        for (int mode : MODES) {
            for (int choice = 0; choice < 8; choice++) {
                long tw = (choice & 1) * TW;
                long tvm = (choice >> 1 & 1) * TVM;
                ControlDesk desk = in(mode, tw | tvm | (choice >> 2) * TSR);
                due("allowed(0) in mode " + mode, desk.allowed(0), mode == 3 || mode == 1 && tw == 0);
                due("allowed(1) in mode " + mode, desk.allowed(1), mode == 3 || mode == 1 && tvm == 0);
            }
        }
        sentence("IllegalArgumentException when what is none of these");
        for (int what : outside(0, 1)) {
            refused("allowed(" + what + ")", desk -> desk.allowed(what));
        }
    }

    private static void floatsAndDirty() {
        sentence("Whether floating point is on (FS is not 0)");
        for (int mode : MODES) {
            for (long fs : ALL_FS) {
                due("floats() with FS " + fs, in(mode, fs).floats(), fs != 0);
                due("floats() with FS " + fs + " and all else", in(mode, fs | STATUS_BITS & ~FS_3).floats(), fs != 0);
            }
        }
        sentence("FS becomes 3, if it isn't 0");
        for (int mode : MODES) {
            for (long fs : ALL_FS) {
                for (long others : new long[] {0, STATUS_BITS & ~FS_3}) {
                    ControlDesk desk = in(mode, fs | others);
                    long before = desk.peek(768);
                    desk.dirty();
                    due("768 after dirty() with FS " + fs, desk.peek(768), fs == 0 ? before : before | FS_3 | TOP);
                    desk.dirty();
                    due("768 after dirty() twice", desk.peek(768), fs == 0 ? before : before | FS_3 | TOP);
                }
            }
            changesNothing("dirty() with FS 0", () -> busy(mode, SUM), desk -> desk.dirty());
            changesNothing("dirty() with FS 3", () -> busy(mode, FS_3), desk -> desk.dirty());
        }
    }

    private static void counts() {
        sentence("CYCLES and INSTRUCTIONS grow by these");
        long[] samples = {0, 1, -1, 2, -2, Long.MAX_VALUE, Long.MIN_VALUE, 1L << 32, -(1L << 32)};
        for (int mode : MODES) {
            for (long start : samples) {
                for (long more : samples) {
                    ControlDesk desk = new ControlDesk(0);
                    write(desk, 2816, start);
                    write(desk, 2818, more);
                    desk.time(9);
                    enter(desk, mode, 0);
                    desk.count(more, -start);
                    due(start + " cycles and " + more, desk.peek(2816), start + more);
                    due("3072", desk.peek(3072), start + more);
                    due(more + " instructions and " + -start, desk.peek(2818), more - start);
                    due("3074", desk.peek(3074), more - start);
                    due("3073", desk.peek(3073), 9);
                }
            }
        }
        ControlDesk desk = new ControlDesk(0);
        write(desk, 2816, Long.MAX_VALUE);
        write(desk, 2818, -1);
        desk.count(1, 1);
        due("CYCLES past the largest number", desk.peek(2816), Long.MIN_VALUE);
        due("INSTRUCTIONS past -1", desk.peek(2818), 0);
        desk.count(-1, -1);
        due("CYCLES back again", desk.peek(2816), Long.MAX_VALUE);
        due("INSTRUCTIONS back again", desk.peek(2818), -1);
    }

    private static void time() {
        sentence("The TIME");
        for (int mode : MODES) {
            ControlDesk desk = in(mode, 0);
            for (long t : new long[] {5, 0, -1, Long.MAX_VALUE, Long.MIN_VALUE, 7, 3}) {
                desk.time(t);
                due("3073 after time(" + t + ")", desk.peek(3073), t);
                due("3072", desk.peek(3072), 0);
                due("3074", desk.peek(3074), 0);
            }
        }
        ControlDesk desk = new ControlDesk(0);
        desk.time(40);
        desk.count(1, 1);
        due("3073 after count", desk.peek(3073), 40);
    }

    private static void questionsChangeNothing() {
        sentence("what the questions answer is all that they do");
        for (int mode : MODES) {
            for (long status : BUSY_STATES) {
                changesNothing("the questions", () -> busy(mode, status), desk -> {
                    desk.mode();
                    desk.dataMode();
                    desk.had();
                    desk.peek(836);
                    desk.place();
                    desk.taken();
                    desk.wakes();
                    desk.allowed(ControlDesk.WAIT);
                    desk.allowed(ControlDesk.FENCE);
                    desk.floats();
                });
            }
        }
    }

    private static void ofTerms() {
        atFirst();
        statusBits();
        statusAlways();
        statusTop();
        statusPreviousMode();
        pending();
        supervisorStatus();
        masks();
        registersStandApart();
        supervisorEnabled();
        supervisorPending();
        table();
        readOnlyRegisters();
        noOthers();
    }

    private static void ofAccess() {
        operations();
        illegalByMode();
        illegalByWrite();
        illegalTable();
        illegalFloats();
        illegalCounts();
        illegalChangesNothing();
        whatItHas();
        floatWrites();
    }

    private static void ofTrapsAndReturns() {
        trapGoesTo();
        trapLeaves();
        trapStatus();
        trapGoesOn();
        machineReturn();
        supervisorReturn();
        returnEdges();
        thereAndBack();
        takenAlone();
        takenByMode();
        takenInOrder();
        wakes();
    }

    private static void ofPromises() {
        newObject();
        dataMode();
        accessRefused();
        had();
        peek();
        trapRefused();
        place();
        line();
        allowed();
        floatsAndDirty();
        counts();
        time();
        questionsChangeNothing();
    }

    public static void main(String[] args) {
        ofTerms();
        ofAccess();
        ofTrapsAndReturns();
        ofPromises();
        System.out.println(wrong == 0 ? "all answers are as due" : wrong + " answers are not as due");
        if (wrong != 0) {
            System.exit(1);
        }
    }
}
