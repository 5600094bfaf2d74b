import java.util.BitSet;
import java.util.Random;

/** Long mixed runs of calls, the same at each start, beside a second desk written bit by bit from the document. */
public final class ControlDeskWalk {
    private static final int WALKS = 20000;
    // The steps, their four questions each and the closing look at everything stay under 512 calls.
    private static final int STEPS = 70;
    private static final int LONG_WALKS = 2000;
    private static final int LAST_CALL = 512;

    private static final int[] NUMBERS = {
        256, 260, 261, 262, 320, 321, 322, 323, 324, 384,
        768, 769, 770, 771, 772, 773, 774, 832, 833, 834, 835, 836,
        2816, 2818, 3072, 3073, 3074, 3857, 3858, 3859, 3860, 3861,
        1, 2, 3, 928, 930, 944, 950, 959, 0, 4, 929, 960, 2817, 3075, 4095};

    /** The second desk: every bit stands by itself, and rules are asked bit by bit. */
    private static final class Model {
        private final BitSet status = new BitSet(64);
        private final BitSet written = new BitSet(64);
        private final BitSet lines = new BitSet(64);
        private final long[] kept = new long[4096];
        private int mode = 3;
        private long had;
        private long place;
        private long time;

        private Model(int processor) {
            kept[3860] = processor;
            kept[769] = 1L << 63 | 1 | 4 | 8 | 32 | 256 | 4096 | 262144 | 1048576;
        }

        private int pair(int low) {
            return (status.get(low) ? 1 : 0) + (status.get(low + 1) ? 2 : 0);
        }

        private void pair(int low, int value) {
            status.set(low, (value & 1) != 0);
            status.set(low + 1, (value & 2) != 0);
        }

        private static boolean bit(long number, int k) {
            return (number >>> k & 1) == 1;
        }

        private boolean statusBit(int k) {
            switch (k) {
                case 33: case 35: return true;
                case 63: return pair(13) == 3;
                default: return status.get(k);
            }
        }

        private boolean pendingBit(int k) {
            switch (k) {
                case 1: case 5: return written.get(k);
                case 9: return written.get(9) || lines.get(9);
                case 3: case 7: case 11: return lines.get(k);
                default: return false;
            }
        }

        private boolean shownBit(int number, int k) {
            switch (number) {
                case 768: return statusBit(k);
                case 256: return statusBit(k) && (k == 1 || k == 5 || k == 8 || k == 13 || k == 14 || k == 18 || k == 19 || k == 33 || k == 63);
                case 836: return pendingBit(k);
                case 324: return pendingBit(k) && bit(kept[771], k);
                case 260: return bit(kept[772], k) && bit(kept[771], k);
                case 3072: return bit(kept[2816], k);
                case 3073: return bit(time, k);
                case 3074: return bit(kept[2818], k);
                default: return bit(kept[number], k);
            }
        }

        private long shown(int number) {
            long all = 0;
            for (int k = 0; k < 64; k++) {
                all |= shownBit(number, k) ? 1L << k : 0;
            }
            return all;
        }

        private static boolean elsewhere(int number) {
            return number == 1 || number == 2 || number == 3 || number == 928 || number == 930 || number >= 944 && number <= 959;
        }

        private static boolean here(int number) {
            return number >= 768 && number <= 774 || number >= 832 && number <= 836 || number == 256
                || number >= 260 && number <= 262 || number >= 320 && number <= 324 || number == 384
                || number == 2816 || number == 2818 || number >= 3072 && number <= 3074 || number >= 3857 && number <= 3861;
        }

        private boolean illegal(int number, boolean writes) {
            if (!here(number) && !elsewhere(number)) return true;
            if (number / 256 % 4 > mode) return true;
            if (writes && number / 1024 == 3) return true;
            if (number == 384 && mode == 1 && status.get(20)) return true;
            if (number <= 3 && pair(13) == 0) return true;
            if (number / 3 == 1024) {
                if (mode < 3 && !bit(kept[774], number - 3072)) return true;
                if (mode < 1 && !bit(kept[262], number - 3072)) return true;
            }
            return false;
        }

        private int access(int number, int operation, boolean writes, long operand) {
            if (illegal(number, writes)) return 2;
            if (elsewhere(number)) {
                if (writes && number < 4) pair(13, 3);
                return 1;
            }
            long seen = shown(number);
            if (writes) {
                long base = number == 836 && !written.get(9) ? seen & ~512L : seen;
                put(number, operation == 1 ? operand : operation == 2 ? base | operand : base & ~operand);
            }
            had = seen;
            return 0;
        }

        private void put(int number, long value) {
            switch (number) {
                case 768: putStatus(value, new int[] {1, 3, 5, 7, 8, 13, 14, 17, 18, 19, 20, 21, 22}); putMpp(value); break;
                case 256: putStatus(value, new int[] {1, 5, 8, 13, 14, 18, 19}); break;
                case 770: kept[770] = value & 46079; break;
                case 771: kept[771] = value & 546; break;
                case 772: kept[772] = value & 2730; break;
                case 774: case 262: kept[number] = value & 7; break;
                case 773: case 261: kept[number] = value & -3; break;
                case 833: case 321: kept[number] = value & -2; break;
                case 260: kept[772] = kept[772] & ~kept[771] | value & kept[771]; break;
                case 836: for (int k = 1; k <= 9; k += 4) written.set(k, bit(value, k)); break;
                case 324: if (bit(kept[771], 1)) written.set(1, bit(value, 1)); break;
                case 384: if (value >>> 60 == 0 || value >>> 61 == 4) kept[384] = value; break;
                case 769: break;
                default: kept[number] = value; break;
            }
        }

        private void putStatus(long value, int[] bits) {
            for (int k : bits) status.set(k, bit(value, k));
        }

        private void putMpp(long value) {
            int next = (int) (value >>> 11 & 3);
            if (next != 2) pair(11, next);
        }

        private long trap(boolean interrupt, int cause, long value, long from) {
            boolean low = mode < 3 && bit(kept[interrupt ? 771 : 770], cause);
            int bank = low ? 320 : 832;
            kept[bank + 1] = from & -2;
            kept[bank + 2] = cause + (interrupt ? Long.MIN_VALUE : 0);
            kept[bank + 3] = value;
            if (low) {
                status.set(8, mode == 1);
                status.set(5, status.get(1));
                status.clear(1);
            } else {
                pair(11, mode);
                status.set(7, status.get(3));
                status.clear(3);
            }
            mode = low ? 1 : 3;
            long vectors = kept[low ? 261 : 773];
            place = (vectors & -4) + (interrupt && bit(vectors, 0) ? 4 * cause : 0);
            return place;
        }

        private boolean back(boolean machine) {
            if (machine ? mode != 3 : mode == 0 || mode == 1 && status.get(22)) return false;
            int enable = machine ? 3 : 1;
            status.set(enable, status.get(enable + 4));
            status.set(enable + 4);
            mode = machine ? pair(11) : status.get(8) ? 1 : 0;
            if (machine) pair(11, 0); else status.clear(8);
            if (mode != 3) status.clear(17);
            place = kept[machine ? 833 : 321];
            return true;
        }

        private boolean ready(int interrupt) {
            return pendingBit(interrupt) && bit(kept[772], interrupt);
        }

        private int taken() {
            int[] order = {11, 3, 7, 9, 1, 5};
            for (int k : order) {
                if (ready(k) && !bit(kept[771], k) && (mode < 3 || status.get(3))) return k;
            }
            for (int k : order) {
                if (ready(k) && bit(kept[771], k) && (mode == 0 || mode == 1 && status.get(1))) return k;
            }
            return -1;
        }

        private boolean wakes() {
            for (int k = 0; k < 64; k++) {
                if (ready(k)) return true;
            }
            return false;
        }

        private boolean allowed(int what) {
            return mode == 3 || mode == 1 && !status.get(what == 0 ? 21 : 20);
        }
    }

    private static int wrong = 0;
    private static int walk;

    private static void due(String what, long got, long want) {
        if (got != want) {
            wrong++;
            if (wrong <= 50) {
                System.out.println("walk " + walk + ": " + what + " answered " + got + ", due is " + want);
            }
        }
    }

    private static void due(String what, boolean got, boolean want) {
        due(what, got ? 1 : 0, want ? 1 : 0);
    }

    private static long operand(Random dice) {
        switch (dice.nextInt(5)) {
            case 0: return -1;
            case 1: return 1L << dice.nextInt(64);
            case 2: return dice.nextLong() & dice.nextLong();
            case 3: return dice.nextInt(8192);
            default: return dice.nextLong();
        }
    }

    private static void step(ControlDesk desk, Model model, Random dice) {
        switch (dice.nextInt(16)) {
            case 0: case 1: {
                boolean interrupt = dice.nextBoolean();
                int cause = dice.nextInt(4) == 0 ? dice.nextInt(64) : dice.nextInt(16);
                long value = dice.nextLong();
                long from = dice.nextLong();
                due("trap(" + interrupt + ", " + cause + ", ..)", desk.trap(interrupt, cause, value, from), model.trap(interrupt, cause, value, from));
                break;
            }
            case 2: case 3: {
                boolean machine = dice.nextBoolean();
                due("back(" + machine + ")", desk.back(machine), model.back(machine));
                break;
            }
            case 4: case 5: {
                int interrupt = new int[] {3, 7, 9, 11}[dice.nextInt(4)];
                boolean on = dice.nextBoolean();
                desk.line(interrupt, on);
                model.lines.set(interrupt, on);
                break;
            }
            case 6: {
                desk.dirty();
                if (model.pair(13) != 0) model.pair(13, 3);
                break;
            }
            case 7: {
                long cycles = operand(dice);
                long instructions = operand(dice);
                desk.count(cycles, instructions);
                model.kept[2816] += cycles;
                model.kept[2818] += instructions;
                break;
            }
            case 8: {
                model.time = dice.nextLong();
                desk.time(model.time);
                break;
            }
            default: {
                int number = dice.nextInt(3) == 0 ? 768 : NUMBERS[dice.nextInt(NUMBERS.length)];
                int operation = 1 + dice.nextInt(3);
                boolean writes = dice.nextInt(4) != 0;
                long operand = operand(dice);
                due("access(" + number + ", " + operation + ", " + writes + ", " + operand + ")",
                    desk.access(number, operation, writes, operand), model.access(number, operation, writes, operand));
                break;
            }
        }
    }

    private static void lookAtAll(ControlDesk desk, Model model) {
        for (int number : NUMBERS) {
            due("peek(" + number + ")", desk.peek(number), Model.here(number) ? model.shown(number) : 0);
        }
        int fs = model.pair(13);
        due("floats()", desk.floats(), fs != 0);
        due("wakes()", desk.wakes(), model.wakes());
        due("dataMode()", desk.dataMode(), model.status.get(17) ? model.pair(11) : model.mode);
        due("allowed(WAIT)", desk.allowed(ControlDesk.WAIT), model.allowed(ControlDesk.WAIT));
        due("allowed(FENCE)", desk.allowed(ControlDesk.FENCE), model.allowed(ControlDesk.FENCE));
    }

    private static void lookAround(ControlDesk desk, Model model) {
        due("mode()", desk.mode(), model.mode);
        due("had()", desk.had(), model.had);
        due("place()", desk.place(), model.place);
        due("taken()", desk.taken(), model.taken());
    }

    private static void walkOnce(Random dice) {
        int processor = dice.nextInt(4);
        ControlDesk desk = new ControlDesk(processor);
        Model model = new Model(processor);
        int steps = 1 + dice.nextInt(STEPS);
        for (int k = 0; k < steps; k++) {
            step(desk, model, dice);
            lookAround(desk, model);
        }
        lookAtAll(desk, model);
    }

    /** As many steps as leave room for the two closing looks, whose last question is then call 512. */
    private static void walkToTheLast(Random dice) {
        int processor = dice.nextInt(4);
        ControlDesk desk = new ControlDesk(processor);
        Model model = new Model(processor);
        int looks = 4 + NUMBERS.length + 5;
        for (int k = 0; k < LAST_CALL - looks; k++) {
            step(desk, model, dice);
        }
        lookAround(desk, model);
        lookAtAll(desk, model);
    }

    public static void main(String[] args) {
        Random dice = new Random(17);
        for (walk = 1; walk <= WALKS; walk++) {
            walkOnce(dice);
        }
        for (; walk <= WALKS + LONG_WALKS; walk++) {
            walkToTheLast(dice);
        }
        System.out.println(wrong == 0 ? "all answers are as due" : wrong + " answers are not as due");
        if (wrong != 0) {
            System.exit(1);
        }
    }
}
