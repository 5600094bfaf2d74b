import java.util.ArrayList;
import java.util.Arrays;
import java.util.LinkedHashMap;
import java.util.List;
import java.util.Map;
import java.util.function.Consumer;
import java.util.function.Supplier;

/** What stays: what each call leaves as it was, one object beside another, and an object up to its 512th call. */
public final class ControlDeskStays {
    private static final int WRITE = 1, SET = 2, CLEAR = 3;
    private static final int[] OPERATIONS = {WRITE, SET, CLEAR};
    private static final int[] MODES = {0, 1, 3};
    private static final boolean[] BOTH = {false, true};
    private static final int[] LINES = {3, 7, 9, 11};
    private static final int LAST_CALL = 512;
    // From this one on no line is on, so that only what is written is pending.
    private static final int QUIET_SEED = 3, SEEDS = 4;

    private static final long SIE = 1L << 1, SPIE = 1L << 5, MPIE = 1L << 7, SPP = 1L << 8, MPP = 3L << 11;
    private static final long FS_1 = 1L << 13, FS_3 = 3L << 13, MPRV = 1L << 17, SUM = 1L << 18;
    private static final long TVM = 1L << 20, TW = 1L << 21, TSR = 1L << 22;
    private static final long ALWAYS = 10L << 32;
    private static final long EXTENSIONS = 1L << 63 | 1 | 1 << 2 | 1 << 3 | 1 << 5 | 1 << 8 | 1 << 12 | 1 << 18 | 1 << 20;
    private static final long[] STATES = {
        0, SIE | FS_1 | SUM | TW, SPIE | SPP | MPRV | FS_3, MPIE | SIE | SPP | TVM, -1L & ~TSR, -1L};

    private static final int[] HERE = {
        256, 260, 261, 262, 320, 321, 322, 323, 324, 384,
        768, 769, 770, 771, 772, 773, 774, 832, 833, 834, 835, 836,
        2816, 2818, 3072, 3073, 3074, 3857, 3858, 3859, 3860, 3861};
    private static final int[] ELSEWHERE = {1, 2, 3, 928, 930, 944, 959};

    private static final String[] OF_STATUS = {"768", "256", "dataMode", "taken", "floats", "WAIT", "FENCE"};
    private static final String[] OF_ENABLED = {"772", "260", "taken", "wakes"};
    private static final String[] OF_PENDING = {"836", "324", "836 without lines", "taken", "wakes"};
    private static final String[] OF_MODE = {"768", "256", "mode", "dataMode", "place", "taken", "WAIT", "FENCE"};

    private static int wrong = 0;

    private static void due(String what, long got, long want) {
        if (got != want) {
            wrong++;
            if (wrong <= 200) {
                System.out.println(what + " answered " + got + ", due is " + want);
            }
        }
    }

    private static void due(String what, boolean got, boolean want) {
        due(what, got ? 1 : 0, want ? 1 : 0);
    }

    /** A desk with something everywhere, brought to the mode by a return of the machine. */
    private static ControlDesk busy(int mode, long status, long seed) {
        ControlDesk desk = new ControlDesk(2);
        for (int k = 0; k < HERE.length; k++) {
            if (HERE[k] < 3072) {
                desk.access(HERE[k], WRITE, true, 0x0123456789ABCDEFL + seed * (k + 1));
            }
        }
        desk.access(771, WRITE, true, seed % 2 == 0 ? 546 : 34);
        desk.access(772, WRITE, true, 2730);
        desk.access(836, WRITE, true, 546);
        desk.time(12345 + seed);
        desk.count(3, 4 + seed);
        for (int line : LINES) {
            desk.line(line, seed < QUIET_SEED && (seed + line) % 3 != 0);
        }
        long had = desk.peek(768);
        desk.access(768, WRITE, true, status & ~MPP | (long) mode << 11);
        due("back(true) to prepare", desk.back(true), true);
        due("had() to prepare", desk.had(), had);
        due("mode() to prepare", desk.mode(), mode);
        return desk;
    }

    /** All that can be asked; at the end the lines go off, to show what is written behind them. */
    private static Map<String, Long> all(ControlDesk desk, boolean backwards) {
        Map<String, Long> answers = new LinkedHashMap<>();
        answers.put("mode", (long) desk.mode());
        answers.put("dataMode", (long) desk.dataMode());
        answers.put("had", desk.had());
        answers.put("place", desk.place());
        answers.put("taken", (long) desk.taken());
        answers.put("wakes", desk.wakes() ? 1L : 0L);
        answers.put("floats", desk.floats() ? 1L : 0L);
        answers.put("WAIT", desk.allowed(ControlDesk.WAIT) ? 1L : 0L);
        answers.put("FENCE", desk.allowed(ControlDesk.FENCE) ? 1L : 0L);
        for (int k = 0; k < HERE.length; k++) {
            int number = HERE[backwards ? HERE.length - 1 - k : k];
            answers.put("" + number, desk.peek(number));
        }
        for (int line : LINES) {
            desk.line(line, false);
        }
        answers.put("836 without lines", desk.peek(836));
        return answers;
    }

    private static Map<String, Long> all(ControlDesk desk) {
        return all(desk, false);
    }

    /** Asked both ways round, so that a question does not hide what another one changed. */
    private static void changesOnly(String what, Supplier<ControlDesk> maker, Consumer<ControlDesk> call, String... open) {
        List<String> may = Arrays.asList(open);
        for (boolean backwards : BOTH) {
            ControlDesk touched = maker.get();
            call.accept(touched);
            Map<String, Long> before = all(maker.get(), backwards);
            Map<String, Long> after = all(touched, backwards);
            for (String name : before.keySet()) {
                if (!may.contains(name)) {
                    due(what + " leaves " + name + ", which", after.get(name), before.get(name));
                }
            }
        }
    }

    private static void everywhere(String what, Consumer<ControlDesk> call, String... open) {
        for (int mode : MODES) {
            for (long status : STATES) {
                for (int seed = 0; seed < SEEDS; seed++) {
                    int start = seed;
                    changesOnly(what + " in mode " + mode, () -> busy(mode, status, start), call, open);
                }
            }
        }
    }

    // ---- What each call leaves

    private static String[] with(String[] names, String... more) {
        String[] all = Arrays.copyOf(names, names.length + more.length);
        System.arraycopy(more, 0, all, names.length, more.length);
        return all;
    }

    private static String[] changedByWrite(int number) {
        switch (number) {
            case 768: case 256: return with(OF_STATUS, "had");
            case 771: return new String[] {"771", "260", "324", "taken", "had"};
            case 772: case 260: return with(OF_ENABLED, "had");
            case 836: case 324: return with(OF_PENDING, "had");
            case 2816: return new String[] {"2816", "3072", "had"};
            case 2818: return new String[] {"2818", "3074", "had"};
            case 769: return new String[] {"had"};
            default: return number < 3072 ? new String[] {"" + number, "had"} : new String[0];
        }
    }

    private static void accessLeavesOthers() {
        for (int number : HERE) {
            for (int operation : OPERATIONS) {
                for (long operand : new long[] {0, -1, 0x0555555555555555L}) {
                    everywhere("access(" + number + ", " + operation + ", true, " + operand + ")",
                        desk -> desk.access(number, operation, true, operand), changedByWrite(number));
                }
                everywhere("access(" + number + ", " + operation + ", false, -1)",
                    desk -> desk.access(number, operation, false, -1), "had");
            }
        }
        for (int number : ELSEWHERE) {
            for (int operation : OPERATIONS) {
                everywhere("access(" + number + ", " + operation + ", true, -1)",
                    desk -> desk.access(number, operation, true, -1), number <= 3 ? new String[] {"768", "256"} : new String[0]);
                everywhere("access(" + number + ", " + operation + ", false, -1)",
                    desk -> desk.access(number, operation, false, -1));
            }
        }
    }

    private static void trapLeavesOthers() {
        for (int mode : MODES) {
            for (long status : STATES) {
                for (int seed = 0; seed < SEEDS; seed++) {
                    for (int cause = 0; cause < 64; cause++) {
                        for (boolean interrupt : BOTH) {
                            int start = seed;
                            int which = cause;
                            long delegated = busy(mode, status, seed).peek(interrupt ? 771 : 770);
                            boolean low = mode < 3 && (delegated >>> cause & 1) == 1;
                            changesOnly("trap(" + interrupt + ", " + cause + ", 5, 6) in mode " + mode,
                                () -> busy(mode, status, start), desk -> desk.trap(interrupt, which, 5, 6),
                                low ? with(OF_MODE, "321", "322", "323") : with(OF_MODE, "833", "834", "835"));
                        }
                    }
                }
            }
        }
    }

    private static void othersLeaveOthers() {
        everywhere("back(true)", desk -> desk.back(true), OF_MODE);
        everywhere("back(false)", desk -> desk.back(false), OF_MODE);
        for (int line : LINES) {
            for (boolean on : BOTH) {
                everywhere("line(" + line + ", " + on + ")", desk -> desk.line(line, on), "836", "324", "taken", "wakes");
                everywhere("836 but for bit " + line + " after line(" + line + ", " + on + ")", desk -> {
                    long before = desk.peek(836);
                    desk.line(line, on);
                    // Bit 9 is written in a busy desk, and so it is there without its line too.
                    long want = on || line == 9 ? before | 1L << line : before & ~(1L << line);
                    due("836 after line(" + line + ", " + on + ")", desk.peek(836), want);
                }, "836", "324", "taken", "wakes");
            }
        }
        everywhere("dirty()", desk -> desk.dirty(), "768", "256");
        everywhere("count(7, 8)", desk -> desk.count(7, 8), "2816", "3072", "2818", "3074");
        everywhere("count(7, 0)", desk -> desk.count(7, 0), "2816", "3072");
        everywhere("count(0, 8)", desk -> desk.count(0, 8), "2818", "3074");
        everywhere("time(7)", desk -> desk.time(7), "3073");
    }

    private static void questionsLeaveAll() {
        everywhere("mode()", desk -> desk.mode());
        everywhere("dataMode()", desk -> desk.dataMode());
        everywhere("had()", desk -> desk.had());
        everywhere("place()", desk -> desk.place());
        everywhere("taken()", desk -> desk.taken());
        everywhere("wakes()", desk -> desk.wakes());
        everywhere("floats()", desk -> desk.floats());
        everywhere("allowed(WAIT)", desk -> desk.allowed(ControlDesk.WAIT));
        everywhere("allowed(FENCE)", desk -> desk.allowed(ControlDesk.FENCE));
        for (int number : HERE) {
            everywhere("peek(" + number + ")", desk -> desk.peek(number));
        }
        for (int number : ELSEWHERE) {
            everywhere("peek(" + number + ")", desk -> desk.peek(number));
        }
        for (int number : new int[] {Integer.MIN_VALUE, -1, 0, 4095, 4096, 4864, Integer.MAX_VALUE}) {
            everywhere("peek(" + number + ")", desk -> desk.peek(number));
        }
    }

    /** What is read is the same in each mode: a trap and a return change only what they name. */
    private static void peekInEveryMode() {
        for (long status : STATES) {
            for (int seed = 0; seed < SEEDS; seed++) {
                Map<String, Long> machine = all(busy(3, status, seed));
                for (int mode : new int[] {0, 1}) {
                    ControlDesk lower = busy(mode, status, seed);
                    for (int number : HERE) {
                        // The return to a lower mode takes MPRV away.
                        long gone = number == 768 ? MPRV : 0;
                        due("peek(" + number + ") in mode " + mode, lower.peek(number), machine.get("" + number) & ~gone);
                    }
                }
            }
        }
    }

    // ---- What had() tells of PENDING

    private static void hadOfPending() {
        for (boolean on : BOTH) {
            for (long written : new long[] {0, 2, 512, 546}) {
                for (int operation : OPERATIONS) {
                    for (boolean writes : BOTH) {
                        ControlDesk desk = new ControlDesk(0);
                        desk.access(771, WRITE, true, 546);
                        desk.access(836, WRITE, true, written);
                        desk.line(9, on);
                        desk.access(324, operation, false, 0);
                        due("had() of 324", desk.had(), written | (on ? 512 : 0));
                        desk.access(836, operation, writes, 32);
                        due("had() of 836, operation " + operation + ", line 9 " + on, desk.had(), written | (on ? 512 : 0));
                    }
                }
            }
        }
    }

    // ---- One object beside another

    private static void objectsStandApart() {
        Map<String, Long> first = all(new ControlDesk(0));
        Map<String, Long> alone = all(busy(1, STATES[1], 1));
        List<ControlDesk> others = new ArrayList<>();
        for (int mode : MODES) {
            ControlDesk quiet = busy(1, STATES[1], 1);
            others.add(busy(mode, STATES[4], 2));
            others.get(others.size() - 1).trap(true, 63, 5, 6);
            due("an object beside a busy one, whether it is as before", all(quiet).equals(alone), true);
            due("a new object beside busy ones, whether it is as at first", all(new ControlDesk(0)).equals(first), true);
        }
        for (int number : HERE) {
            long want = number == 768 ? ALWAYS : number == 256 ? 1L << 33 : number == 769 ? EXTENSIONS : 0;
            due("peek(" + number + ") at first", first.get("" + number), want);
        }
        due("mode() of a new object", first.get("mode"), 3);
        due("had() of a new object", first.get("had"), 0);
        due("place() of a new object", first.get("place"), 0);
        due("taken() of a new object", first.get("taken"), ControlDesk.NONE);
        due("836 without lines of a new object", first.get("836 without lines"), 0);
    }

    // ---- Up to the 512th call

    /** The call so often that the next one is the last of which something is promised. */
    private static ControlDesk used(ControlDesk desk, int already, Consumer<ControlDesk> call) {
        for (int k = already; k < LAST_CALL - 1; k++) {
            call.accept(desk);
        }
        return desk;
    }

    private static ControlDesk used(Consumer<ControlDesk> call) {
        return used(new ControlDesk(1), 0, call);
    }

    private static void lastOfLikeCalls() {
        due("mode() as call 512", used(desk -> desk.mode()).mode(), 3);
        due("dataMode() as call 512", used(desk -> desk.dataMode()).dataMode(), 3);
        due("peek(3860) as call 512", used(desk -> desk.peek(3860)).peek(3860), 1);
        due("taken() as call 512", used(desk -> desk.taken()).taken(), ControlDesk.NONE);
        due("wakes() as call 512", used(desk -> desk.wakes()).wakes(), false);
        due("floats() as call 512", used(desk -> desk.floats()).floats(), false);
        due("allowed(0) as call 512", used(desk -> desk.allowed(0)).allowed(0), true);
        due("access(320, ..) as call 512", used(desk -> desk.access(320, SET, true, 1)).access(320, WRITE, true, 2), ControlDesk.DONE);
        due("had() after 511 writes", used(desk -> desk.access(320, WRITE, true, 9)).had(), 9);
        due("320 after 511 writes", used(desk -> desk.access(320, WRITE, true, 9)).peek(320), 9);
        due("836 after 511 lines", used(desk -> desk.line(11, true)).peek(836), 2048);
        due("2816 after 511 counts", used(desk -> desk.count(2, 3)).peek(2816), 1022);
        due("2818 after 511 counts", used(desk -> desk.count(2, 3)).peek(2818), 1533);
        due("3073 after 511 times", used(desk -> desk.time(77)).peek(3073), 77);
        due("floats() after 511 times dirty()", used(desk -> desk.dirty()).floats(), false);
        ControlDesk vectored = new ControlDesk(0);
        vectored.access(773, WRITE, true, 4097);
        due("trap as call 512", used(vectored, 1, desk -> desk.trap(false, 2, 3, 4)).trap(true, 63, 0, 0), 4096 + 252);
        ControlDesk trapped = used(desk -> desk.trap(false, 2, 3, 800));
        due("back as call 512", trapped.back(true), true);
        ControlDesk returning = new ControlDesk(0);
        returning.access(833, WRITE, true, 600);
        due("place() after 510 returns", used(returning, 1, desk -> desk.back(true)).place(), 600);
    }

    private static void lastAfterRefusedCalls() {
        ControlDesk desk = used(each -> {
            try {
                each.access(-1, WRITE, true, 1);
                due("whether access(-1, ..) was refused", false, true);
            } catch (IllegalArgumentException e) {
                due("whether access(-1, ..) was refused", true, true);
            }
        });
        due("mode() after 511 refused calls", desk.mode(), 3);
        ControlDesk full = used(each -> each.mode());
        boolean thrown = false;
        try {
            full.trap(false, 64, 0, 0);
        } catch (IllegalArgumentException e) {
            thrown = true;
        }
        due("whether trap(false, 64, ..) is refused as call 512", thrown, true);
    }

    /** Traps and returns go down and up again; each of the 512 calls has its answer. */
    private static void tripsUpToTheLast() {
        ControlDesk desk = new ControlDesk(0);
        due("access(773, ..)", desk.access(773, WRITE, true, 8192), ControlDesk.DONE);
        due("back(true)", desk.back(true), true);
        int calls = 2;
        for (long trip = 1; calls + 5 <= LAST_CALL; trip++) {
            due("trap in trip " + trip, desk.trap(false, 8, trip, 4 * trip), 8192);
            due("835 in trip " + trip, desk.peek(835), trip);
            due("access(832, 1, ..) in trip " + trip, desk.access(832, WRITE, true, trip), ControlDesk.DONE);
            due("had() in trip " + trip, desk.had(), trip - 1);
            due("back(true) in trip " + trip, desk.back(true), true);
            calls += 5;
        }
        due("the calls so far", calls, LAST_CALL);
    }

    public static void main(String[] args) {
        accessLeavesOthers();
        trapLeavesOthers();
        othersLeaveOthers();
        questionsLeaveAll();
        peekInEveryMode();
        hadOfPending();
        objectsStandApart();
        lastOfLikeCalls();
        lastAfterRefusedCalls();
        tripsUpToTheLast();
        System.out.println(wrong == 0 ? "all answers are as due" : wrong + " answers are not as due");
        if (wrong != 0) {
            System.exit(1);
        }
    }
}
