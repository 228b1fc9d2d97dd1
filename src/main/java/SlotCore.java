import java.util.NoSuchElementException;

/** A machine of words whose branches and loads come one instruction late. */
public final class SlotCore {
    /** What look(7) answers while no load waits. */
    public static final int NONE = -1;

    private static final int MEMORY_BYTES = 4096;
    private static final int WORDS = 1024;
    private static final int PLACE_BITS = 0x1FFFFFFF;
    private static final int HANDLER = -2147483520;
    private static final int MOST_LINES = 63;
    private static final int MOST_STEPS = 5000;

    // HIGH and LOW stand behind the registers, at the numbers that set and register give them.
    private static final int HIGH = 32;
    private static final int LOW = 33;
    private static final int REGISTERS = 34;
    private static final int LINK = 31;

    private static final int ALLOWED = 1;
    private static final int USER = 2;
    private static final int MODES = 0x3F;
    private static final int REQUESTS = 0xFF00;
    private static final int STATUS_BITS = REQUESTS | MODES;
    private static final int WRITTEN_REQUESTS = 0x300;
    private static final int BEHIND_A_BRANCH = 0x80000000;

    private static final int STATUS = 12;
    private static final int CAUSE = 13;
    private static final int RETURN = 14;
    private static final int BAD = 8;

    // The code of interrupts is 0, so "no exception" cannot be 0.
    private static final int FINE = -1;
    private static final int INTERRUPT = 0;
    private static final int BAD_LOAD = 4;
    private static final int BAD_STORE = 5;
    private static final int NO_INSTRUCTION = 6;
    private static final int NO_DATA = 7;
    private static final int CALL = 8;
    private static final int BREAK = 9;
    private static final int UNKNOWN = 10;
    private static final int NOT_IN_USER = 11;
    private static final int NOT_EXACT = 12;

    private final Memory memory;
    private final Registers registers;
    private final Control control;
    private final Outcome outcome;
    private int pc;
    private int next;
    private boolean inSlot;
    private int steps;
    private int exceptions;

    public SlotCore() {
        memory = new Memory();
        registers = new Registers();
        control = new Control();
        outcome = new Outcome();
        next = 4;
    }

    public void reset() {
        registers.clear();
        control.clear();
        continueAt(0);
        steps = 0;
        exceptions = 0;
    }

    public int put(int place, int v) throws NoSuchElementException {
        if (!isPlaceOfWord(place)) {
            throw new NoSuchElementException();
        }
        int before = memory.wordAround(place);
        memory.replaceWord(place, v);
        return before;
    }

    public int word(int place) throws NoSuchElementException {
        if (!isPlaceOfWord(place)) {
            throw new NoSuchElementException();
        }
        return memory.wordAround(place);
    }

    public int set(int k, int v) throws NoSuchElementException {
        if (k < 0 || k >= REGISTERS) {
            throw new NoSuchElementException();
        }
        int before = registers.valueOf(k);
        registers.change(k, v);
        return before;
    }

    public int register(int k) throws NoSuchElementException {
        if (k < 0 || k >= REGISTERS) {
            throw new NoSuchElementException();
        }
        return registers.valueOf(k);
    }

    public int go(int v) {
        int before = pc;
        registers.dropLoad();
        continueAt(v);
        return before;
    }

    public int status(int v) {
        int before = control.statusBits;
        control.change(STATUS, v);
        return before;
    }

    public int lines(int lines) throws IllegalArgumentException {
        if (lines < 0 || lines > MOST_LINES) {
            throw new IllegalArgumentException();
        }
        int before = control.lineBits;
        control.lineBits = lines;
        return before;
    }

    public int step() {
        return takeStep();
    }

    public int run(int n) throws IllegalArgumentException {
        if (n < 0 || n > MOST_STEPS) {
            throw new IllegalArgumentException();
        }
        int before = exceptions;
        for (int i = 0; i < n; i++) {
            takeStep();
        }
        return exceptions - before;
    }

    public int look(int what) throws NoSuchElementException {
        switch (what) {
            case 0: return pc;
            case 1: return next;
            case 2: return control.statusBits;
            case 3: return control.wholeCause();
            case 4: return control.returnAddress;
            case 5: return control.badAddress;
            case 6: return inSlot ? 1 : 0;
            case 7: return registers.waitsFor;
            case 8: return registers.waitingValue;
            case 9: return steps;
            case 10: return exceptions;
            default: throw new NoSuchElementException();
        }
    }

    private static boolean isPlaceOfWord(int place) {
        return (place & 3) == 0 && isInMemory(place);
    }

    private static boolean isInMemory(int place) {
        return place >= 0 && place < MEMORY_BYTES;
    }

    private void continueAt(int address) {
        pc = address;
        next = address + 4;
        inSlot = false;
    }

    // A step

    private int takeStep() {
        steps++;
        if (control.interruptIsDue()) {
            enterException(INTERRUPT);
            return 2;
        }
        int fault = faultAtPc();
        if (fault == FINE) {
            fault = perform(memory.wordAround(pc & PLACE_BITS));
        }
        if (fault != FINE) {
            enterException(fault);
            return 1;
        }
        finishInstruction();
        return 0;
    }

    private void enterException(int code) {
        exceptions++;
        registers.landLoad();
        control.enter(code, inSlot ? pc - 4 : pc, inSlot);
        continueAt(HANDLER);
    }

    // The load that waited comes first, so that a result for the same register outlasts it.
    private void finishInstruction() {
        registers.landLoad();
        if (outcome.isLoad) {
            registers.holdLoad(outcome.register, outcome.value);
        } else {
            registers.change(outcome.register, outcome.value);
        }
        pc = next;
        next = outcome.afterNext;
        inSlot = outcome.isBranch;
    }

    private int faultAtPc() {
        if ((pc & 3) != 0 || control.forbids(pc)) {
            control.badAddress = pc;
            return BAD_LOAD;
        }
        return isInMemory(pc & PLACE_BITS) ? FINE : NO_INSTRUCTION;
    }

    private int perform(int w) {
        outcome.begin(next + 4);
        if (inSlot && isBranch(w)) {
            return UNKNOWN;
        }
        switch (orderOf(w)) {
            case 0: return performByK(w);
            case 1: return performBranchBySign(w);
            case 2: case 3: return performJump(w);
            case 4: case 5: case 6: case 7: return performBranch(w);
            case 8: case 9: case 10: case 11: case 12: case 13: case 14: case 15: return performWithNumber(w);
            case 16: return performControl(w);
            case 32: case 33: case 34: case 35: case 36: case 37: case 38: return performLoad(w);
            case 40: case 41: case 42: case 43: case 46: return performStore(w);
            default: return UNKNOWN;
        }
    }

    // The parts of an instruction

    private static int orderOf(int w) {
        return w >>> 26;
    }

    private static int numberS(int w) {
        return w >>> 21 & 31;
    }

    private static int numberT(int w) {
        return w >>> 16 & 31;
    }

    private static int numberD(int w) {
        return w >>> 11 & 31;
    }

    private static int numberA(int w) {
        return w >>> 6 & 31;
    }

    private static int numberK(int w) {
        return w & 63;
    }

    private static int numberI(int w) {
        return (short) w;
    }

    private static int numberU(int w) {
        return w & 0xFFFF;
    }

    private int valueOfS(int w) {
        return registers.valueOf(numberS(w));
    }

    private int valueOfT(int w) {
        return registers.valueOf(numberT(w));
    }

    private static long withoutSign(int v) {
        return v & 0xFFFFFFFFL;
    }

    // What an instruction can come to; each answers the exception, or FINE

    private int give(int register, int value) {
        outcome.register = register;
        outcome.value = value;
        return FINE;
    }

    private int giveIfExact(int register, long value) {
        if (value != (int) value) {
            return NOT_EXACT;
        }
        return give(register, (int) value);
    }

    private int giveTruth(int register, boolean truth) {
        return give(register, truth ? 1 : 0);
    }

    private int giveLate(int register, int value) {
        outcome.isLoad = true;
        return give(register, value);
    }

    private int branchIf(boolean goes, int target) {
        outcome.isBranch = true;
        if (goes) {
            outcome.afterNext = target;
        }
        return FINE;
    }

    private int keepHighAndLow(long both) {
        registers.change(HIGH, (int) (both >> 32));
        registers.change(LOW, (int) both);
        return FINE;
    }

    // Order 0

    private int performByK(int w) {
        switch (numberK(w)) {
            case 0: case 2: case 3: case 4: case 6: case 7: return performShift(w);
            case 8: case 9: return performJumpToS(w);
            case 12: return CALL;
            case 13: return BREAK;
            case 16: case 17: case 18: case 19: return performMove(w);
            case 24: case 25: case 26: case 27: return performProduct(w);
            default: return performOnTwo(w);
        }
    }

    private int performShift(int w) {
        int t = valueOfT(w);
        int d = numberD(w);
        int byS = valueOfS(w) & 31;
        switch (numberK(w)) {
            case 0: return give(d, t << numberA(w));
            case 2: return give(d, t >>> numberA(w));
            case 3: return give(d, t >> numberA(w));
            case 4: return give(d, t << byS);
            case 6: return give(d, t >>> byS);
            default: return give(d, t >> byS);
        }
    }

    private int performJumpToS(int w) {
        if (numberK(w) == 9) {
            give(numberD(w), pc + 8);
        }
        return branchIf(true, valueOfS(w));
    }

    private int performOnTwo(int w) {
        int s = valueOfS(w);
        int t = valueOfT(w);
        int d = numberD(w);
        switch (numberK(w)) {
            case 32: return giveIfExact(d, (long) s + t);
            case 33: return give(d, s + t);
            case 34: return giveIfExact(d, (long) s - t);
            case 35: return give(d, s - t);
            case 36: return give(d, s & t);
            case 37: return give(d, s | t);
            case 38: return give(d, s ^ t);
            case 39: return give(d, ~(s | t));
            case 42: return giveTruth(d, s < t);
            case 43: return giveTruth(d, withoutSign(s) < withoutSign(t));
            default: return UNKNOWN;
        }
    }

    private int performMove(int w) {
        switch (numberK(w)) {
            case 16: return give(numberD(w), registers.valueOf(HIGH));
            case 17: return give(HIGH, valueOfS(w));
            case 18: return give(numberD(w), registers.valueOf(LOW));
            default: return give(LOW, valueOfS(w));
        }
    }

    private int performProduct(int w) {
        int s = valueOfS(w);
        int t = valueOfT(w);
        switch (numberK(w)) {
            case 24: return keepHighAndLow((long) s * t);
            case 25: return keepHighAndLow(withoutSign(s) * withoutSign(t));
            case 26: return keepHighAndLow(divide(s, t));
            default: return keepHighAndLow(divideWithoutSign(s, t));
        }
    }

    private static long divide(int s, int t) {
        if (t == 0) {
            return restAndQuotient(s, s < 0 ? 1 : -1);
        }
        long dividend = s;
        return restAndQuotient(dividend % t, dividend / t);
    }

    private static long divideWithoutSign(int s, int t) {
        if (t == 0) {
            return restAndQuotient(s, -1);
        }
        long dividend = withoutSign(s);
        long divisor = withoutSign(t);
        return restAndQuotient(dividend % divisor, dividend / divisor);
    }

    private static long restAndQuotient(long rest, long quotient) {
        return rest << 32 | quotient & 0xFFFFFFFFL;
    }

    // Orders 1 .. 7

    private static boolean isBranch(int w) {
        int order = orderOf(w);
        if (order == 0) {
            return numberK(w) == 8 || numberK(w) == 9;
        }
        if (order == 1) {
            return isBranchBySign(w);
        }
        return order < 8;
    }

    private static boolean isBranchBySign(int w) {
        int kind = numberT(w);
        return kind == 0 || kind == 1 || kind == 16 || kind == 17;
    }

    private int performBranchBySign(int w) {
        if (!isBranchBySign(w)) {
            return UNKNOWN;
        }
        int s = valueOfS(w);
        int kind = numberT(w);
        if (kind == 16 || kind == 17) {
            give(LINK, pc + 8);
        }
        boolean ifNegative = kind == 0 || kind == 16;
        return branchIf(ifNegative == s < 0, nearTarget(w));
    }

    private int performJump(int w) {
        if (orderOf(w) == 3) {
            give(LINK, pc + 8);
        }
        return branchIf(true, farTarget(w));
    }

    private int performBranch(int w) {
        int s = valueOfS(w);
        int t = valueOfT(w);
        switch (orderOf(w)) {
            case 4: return branchIf(s == t, nearTarget(w));
            case 5: return branchIf(s != t, nearTarget(w));
            case 6: return branchIf(s <= 0, nearTarget(w));
            default: return branchIf(s > 0, nearTarget(w));
        }
    }

    private int nearTarget(int w) {
        return pc + 4 + 4 * numberI(w);
    }

    private int farTarget(int w) {
        return (pc + 4 & 0xF0000000) | (w << 2 & 0x0FFFFFFF);
    }

    // Orders 8 .. 15

    private int performWithNumber(int w) {
        int s = valueOfS(w);
        int t = numberT(w);
        int i = numberI(w);
        int u = numberU(w);
        switch (orderOf(w)) {
            case 8: return giveIfExact(t, (long) s + i);
            case 9: return give(t, s + i);
            case 10: return giveTruth(t, s < i);
            case 11: return giveTruth(t, withoutSign(s) < withoutSign(i));
            case 12: return give(t, s & u);
            case 13: return give(t, s | u);
            case 14: return give(t, s ^ u);
            default: return give(t, u << 16);
        }
    }

    // Order 16

    private int performControl(int w) {
        int kind = numberS(w);
        boolean leaves = kind == 16 && numberK(w) == 16;
        if (kind != 0 && kind != 4 && !leaves) {
            return UNKNOWN;
        }
        if (control.isUser()) {
            return NOT_IN_USER;
        }
        if (kind == 0) {
            return giveLate(numberT(w), control.valueOf(numberD(w)));
        }
        if (leaves) {
            control.leave();
        } else {
            control.change(numberD(w), valueOfT(w));
        }
        return FINE;
    }

    // Orders 32 .. 46

    private int performLoad(int w) {
        int address = addressOf(w);
        int fault = faultOfData(address, loadUnit(orderOf(w)), BAD_LOAD);
        if (fault != FINE) {
            return fault;
        }
        int t = numberT(w);
        int fresh = memory.wordAround(address & PLACE_BITS);
        return giveLate(t, joinLoaded(orderOf(w), registers.latestOf(t), fresh, address));
    }

    private static int joinLoaded(int order, int old, int fresh, int address) {
        int toByte = toLowest(address, 1);
        int toHalf = toLowest(address, 2);
        int ahead = bitsAhead(address);
        switch (order) {
            case 32: return (byte) (fresh >> toByte);
            case 33: return (short) (fresh >> toHalf);
            case 34: return exchange(old, fresh << ahead, -1 << ahead);
            case 35: return fresh;
            case 36: return fresh >> toByte & 0xFF;
            case 37: return fresh >> toHalf & 0xFFFF;
            default: return exchange(old, fresh >>> toByte, -1 >>> toByte);
        }
    }

    private int performStore(int w) {
        int address = addressOf(w);
        int fault = faultOfData(address, storeUnit(orderOf(w)), BAD_STORE);
        if (fault != FINE) {
            return fault;
        }
        int place = address & PLACE_BITS;
        int old = memory.wordAround(place);
        memory.replaceWord(place, joinStored(orderOf(w), old, valueOfT(w), address));
        return FINE;
    }

    private static int joinStored(int order, int old, int t, int address) {
        int toByte = toLowest(address, 1);
        int toHalf = toLowest(address, 2);
        int ahead = bitsAhead(address);
        switch (order) {
            case 40: return exchange(old, t << toByte, 0xFF << toByte);
            case 41: return exchange(old, t << toHalf, 0xFFFF << toHalf);
            case 42: return exchange(old, t >>> ahead, -1 >>> ahead);
            case 43: return t;
            default: return exchange(old, t << toByte, -1 << toByte);
        }
    }

    private int addressOf(int w) {
        return valueOfS(w) + numberI(w);
    }

    private int faultOfData(int address, int unit, int code) {
        if ((address & unit - 1) != 0 || control.forbids(address)) {
            control.badAddress = address;
            return code;
        }
        return isInMemory(address & PLACE_BITS) ? FINE : NO_DATA;
    }

    private static int loadUnit(int order) {
        if (order == 35) {
            return 4;
        }
        return order == 33 || order == 37 ? 2 : 1;
    }

    private static int storeUnit(int order) {
        if (order == 43) {
            return 4;
        }
        return order == 41 ? 2 : 1;
    }

    // The byte with the lowest place is a word's highest: how far a piece stands above the word's end.
    private static int toLowest(int address, int bytes) {
        return 8 * (4 - bytes - (address & 3)) & 31;
    }

    private static int bitsAhead(int address) {
        return 8 * (address & 3);
    }

    private static int exchange(int old, int fresh, int mask) {
        return old & ~mask | fresh & mask;
    }

    /** The bytes, held as words, the byte with the lowest place highest. */
    private static final class Memory {
        private final int[] words = new int[WORDS];

        /** The word that a place lies in; callers have looked that it is in memory. */
        private int wordAround(int place) {
            return words[indexOf(place)];
        }

        private void replaceWord(int place, int v) {
            words[indexOf(place)] = v;
        }

        // The mask changes no place that is in memory: it shows here that no index is ever outside.
        private static int indexOf(int place) {
            return place >> 2 & WORDS - 1;
        }
    }

    /** The registers, HIGH and LOW, and the load that waits. */
    private static final class Registers {
        private final int[] values = new int[REGISTERS];
        private int waitsFor = NONE;
        private int waitingValue;

        private int valueOf(int k) {
            return k >= 0 && k < REGISTERS ? values[k] : 0;
        }

        private void change(int k, int v) {
            if (k > 0 && k < REGISTERS) {
                values[k] = v;
            }
        }

        private int latestOf(int k) {
            return waitsFor == k ? waitingValue : valueOf(k);
        }

        private void holdLoad(int k, int v) {
            waitsFor = k;
            waitingValue = v;
        }

        private void landLoad() {
            change(waitsFor, waitingValue);
            dropLoad();
        }

        private void dropLoad() {
            holdLoad(NONE, 0);
        }

        private void clear() {
            for (int k = 0; k < REGISTERS; k++) {
                values[k] = 0;
            }
            dropLoad();
        }
    }

    /** STATUS, CAUSE, RETURN, BAD and the lines. */
    private static final class Control {
        private int statusBits;
        // Without the lines, which show in CAUSE as they are at the moment.
        private int causeBits;
        private int lineBits;
        private int returnAddress;
        private int badAddress;

        private int wholeCause() {
            return causeBits | lineBits << 10;
        }

        private boolean isUser() {
            return (statusBits & USER) != 0;
        }

        private boolean forbids(int address) {
            return isUser() && address < 0;
        }

        private boolean interruptIsDue() {
            return (statusBits & ALLOWED) != 0 && (wholeCause() & statusBits & REQUESTS) != 0;
        }

        private int valueOf(int number) {
            switch (number) {
                case STATUS: return statusBits;
                case CAUSE: return wholeCause();
                case RETURN: return returnAddress;
                case BAD: return badAddress;
                default: return 0;
            }
        }

        private void change(int number, int v) {
            switch (number) {
                case STATUS:
                    statusBits = v & STATUS_BITS;
                    break;
                case CAUSE:
                    causeBits = exchange(causeBits, v, WRITTEN_REQUESTS);
                    break;
                case RETURN:
                    returnAddress = v;
                    break;
                default:
                    break;
            }
        }

        private void enter(int code, int address, boolean behindBranch) {
            returnAddress = address;
            causeBits = causeBits & WRITTEN_REQUESTS | code << 2 | (behindBranch ? BEHIND_A_BRANCH : 0);
            statusBits = exchange(statusBits, statusBits << 2, MODES);
        }

        private void leave() {
            statusBits = exchange(statusBits, statusBits >> 2, MODES >> 2);
        }

        private void clear() {
            statusBits = 0;
            causeBits = 0;
            lineBits = 0;
            returnAddress = 0;
            badAddress = 0;
        }
    }

    /** What the instruction in hand does once the load that waited has come; one row for all steps. */
    private static final class Outcome {
        private int register;
        private int value;
        private boolean isLoad;
        private boolean isBranch;
        private int afterNext;

        private void begin(int following) {
            register = NONE;
            isLoad = false;
            isBranch = false;
            afterNext = following;
        }
    }
}
