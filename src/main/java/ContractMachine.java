import java.util.Arrays;
import java.util.NoSuchElementException;

/** A machine for contracts after Ethereum's (Berlin); DOC.md tells what each call promises. */
public final class ContractMachine {
    private static final int TAPE_ROOM = 24576;
    private static final int CODE_ROOM = 2048;
    private static final int MOST_GAS = 200000;
    private static final int MOST_ACCOUNTS = 64;
    private static final int MOST_PLACES = 400;
    private static final int MOST_LOGS = 200;
    private static final int MOST_LOG_BYTES = 4096;
    private static final int DEEPEST = 24;
    private static final int STACK_ROOM = 1024;

    /** A NUMBER is eight ints, the lowest first; an ADDRESS is the five lowest of them. */
    private static final int LIMBS = 8;
    private static final int ADDRESS_LIMBS = 5;
    private static final long LOW = 0xFFFFFFFFL;
    private static final int SIGN = 1 << 31;
    private static final long LONG_SIGN = 1L << 63;

    /** Stands for every NUMBER of 2^32 or more where only a small one can be paid for. */
    private static final long HUGE = 1L << 40;

    /** The most bytes that 200000 gas pay for in one MEMORY, and in all 25 that can be open at once. */
    private static final int MOST_MEMORY = 300160;
    private static final int MOST_MEMORIES = 1120000;

    /** A change of a BALANCE or a STORAGE place costs 100 gas or more, but the two of the RUN's own VALUE. */
    private static final int MOST_CHANGES = 2048;

    /** A first touch costs 2100 gas or more, but the two at the beginning of a RUN. */
    private static final int MOST_TOUCHED = 128;

    /** Every step costs gas but those that end a MESSAGE, so no RUN comes near this. */
    private static final int MOST_STEPS = 1000000;

    private static final int NO_STEP = -1;
    private static final int GOING = -1;
    private static final int FAILED = 0;
    private static final int SUCCEEDED = 1;
    private static final int REVERTED = 2;

    /** What a step costs in any case; -1: there is no such step. */
    private static final int[] GAS = {
        0, 3, 5, 3, 5, 5, 5, 5, 8, 8, 10, 5, -1, -1, -1, -1,
        3, 3, 3, 3, 3, 3, 3, 3, 3, 3, 3, 3, 3, 3, -1, -1,
        30, -1, -1, -1, -1, -1, -1, -1, -1, -1, -1, -1, -1, -1, -1, -1,
        2, 0, 2, 2, 2, 3, 2, 3, 2, 3, 2, 0, 0, 2, 3, 0,
        -1, 2, 2, 2, 2, 2, 2, 5, -1, -1, -1, -1, -1, -1, -1, -1,
        2, 3, 3, 3, 0, 0, 8, 10, 2, 2, 2, 1, -1, -1, -1, -1,
        3, 3, 3, 3, 3, 3, 3, 3, 3, 3, 3, 3, 3, 3, 3, 3,
        3, 3, 3, 3, 3, 3, 3, 3, 3, 3, 3, 3, 3, 3, 3, 3,
        3, 3, 3, 3, 3, 3, 3, 3, 3, 3, 3, 3, 3, 3, 3, 3,
        3, 3, 3, 3, 3, 3, 3, 3, 3, 3, 3, 3, 3, 3, 3, 3,
        375, 750, 1125, 1500, 1875, -1, -1, -1, -1, -1, -1, -1, -1, -1, -1, -1,
        -1, -1, -1, -1, -1, -1, -1, -1, -1, -1, -1, -1, -1, -1, -1, -1,
        -1, -1, -1, -1, -1, -1, -1, -1, -1, -1, -1, -1, -1, -1, -1, -1,
        -1, -1, -1, -1, -1, -1, -1, -1, -1, -1, -1, -1, -1, -1, -1, -1,
        -1, -1, -1, -1, -1, -1, -1, -1, -1, -1, -1, -1, -1, -1, -1, -1,
        -1, 0, 0, 0, 0, -1, -1, -1, -1, -1, 0, -1, -1, 0, -1, 5000};

    /** How many NUMBERS a step takes from the STACK. */
    private static final int[] TAKES = {
        0, 2, 2, 2, 2, 2, 2, 2, 3, 3, 2, 2, 0, 0, 0, 0,
        2, 2, 2, 2, 2, 1, 2, 2, 2, 1, 2, 2, 2, 2, 0, 0,
        2, 0, 0, 0, 0, 0, 0, 0, 0, 0, 0, 0, 0, 0, 0, 0,
        0, 1, 0, 0, 0, 1, 0, 3, 0, 3, 0, 1, 4, 0, 3, 1,
        0, 0, 0, 0, 0, 0, 0, 0, 0, 0, 0, 0, 0, 0, 0, 0,
        1, 1, 2, 2, 1, 2, 1, 2, 0, 0, 0, 0, 0, 0, 0, 0,
        0, 0, 0, 0, 0, 0, 0, 0, 0, 0, 0, 0, 0, 0, 0, 0,
        0, 0, 0, 0, 0, 0, 0, 0, 0, 0, 0, 0, 0, 0, 0, 0,
        1, 2, 3, 4, 5, 6, 7, 8, 9, 10, 11, 12, 13, 14, 15, 16,
        2, 3, 4, 5, 6, 7, 8, 9, 10, 11, 12, 13, 14, 15, 16, 17,
        2, 3, 4, 5, 6, 0, 0, 0, 0, 0, 0, 0, 0, 0, 0, 0,
        0, 0, 0, 0, 0, 0, 0, 0, 0, 0, 0, 0, 0, 0, 0, 0,
        0, 0, 0, 0, 0, 0, 0, 0, 0, 0, 0, 0, 0, 0, 0, 0,
        0, 0, 0, 0, 0, 0, 0, 0, 0, 0, 0, 0, 0, 0, 0, 0,
        0, 0, 0, 0, 0, 0, 0, 0, 0, 0, 0, 0, 0, 0, 0, 0,
        0, 7, 7, 2, 6, 0, 0, 0, 0, 0, 6, 0, 0, 2, 0, 1};

    /** How many NUMBERS a step puts on the STACK. */
    private static final int[] GIVES = {
        0, 1, 1, 1, 1, 1, 1, 1, 1, 1, 1, 1, 0, 0, 0, 0,
        1, 1, 1, 1, 1, 1, 1, 1, 1, 1, 1, 1, 1, 1, 0, 0,
        1, 0, 0, 0, 0, 0, 0, 0, 0, 0, 0, 0, 0, 0, 0, 0,
        1, 1, 1, 1, 1, 1, 1, 0, 1, 0, 1, 1, 0, 1, 0, 1,
        0, 1, 1, 1, 1, 1, 1, 1, 0, 0, 0, 0, 0, 0, 0, 0,
        0, 1, 0, 0, 1, 0, 0, 0, 1, 1, 1, 0, 0, 0, 0, 0,
        1, 1, 1, 1, 1, 1, 1, 1, 1, 1, 1, 1, 1, 1, 1, 1,
        1, 1, 1, 1, 1, 1, 1, 1, 1, 1, 1, 1, 1, 1, 1, 1,
        2, 3, 4, 5, 6, 7, 8, 9, 10, 11, 12, 13, 14, 15, 16, 17,
        2, 3, 4, 5, 6, 7, 8, 9, 10, 11, 12, 13, 14, 15, 16, 17,
        0, 0, 0, 0, 0, 0, 0, 0, 0, 0, 0, 0, 0, 0, 0, 0,
        0, 0, 0, 0, 0, 0, 0, 0, 0, 0, 0, 0, 0, 0, 0, 0,
        0, 0, 0, 0, 0, 0, 0, 0, 0, 0, 0, 0, 0, 0, 0, 0,
        0, 0, 0, 0, 0, 0, 0, 0, 0, 0, 0, 0, 0, 0, 0, 0,
        0, 0, 0, 0, 0, 0, 0, 0, 0, 0, 0, 0, 0, 0, 0, 0,
        0, 1, 1, 0, 1, 0, 0, 0, 0, 0, 1, 0, 0, 0, 0, 0};

    private static final int STOP = 0x00;
    private static final int JUMPDEST = 0x5B;
    private static final int PUSH1 = 0x60;
    private static final int PUSH32 = 0x7F;
    private static final int SSTORE = 0x55;
    private static final int LOG0 = 0xA0;
    private static final int LOG4 = 0xA4;
    private static final int CALL = 0xF1;
    private static final int CALLCODE = 0xF2;
    private static final int RETURN = 0xF3;
    private static final int DELEGATECALL = 0xF4;
    private static final int STATICCALL = 0xFA;
    private static final int REVERT = 0xFD;
    private static final int SELFDESTRUCT = 0xFF;

    private static final int[] KECCAK_TURNS = {
        1, 3, 6, 10, 15, 21, 28, 36, 45, 55, 2, 14, 27, 41, 56, 8, 25, 43, 62, 18, 39, 61, 20, 44};
    private static final int[] KECCAK_WAY = {
        10, 7, 11, 17, 18, 3, 5, 16, 8, 21, 24, 4, 15, 23, 19, 13, 12, 2, 20, 14, 22, 9, 6, 1};
    private static final long[] KECCAK_ROUNDS = {
        0x0000000000000001L, 0x0000000000008082L, 0x800000000000808AL, 0x8000000080008000L,
        0x000000000000808BL, 0x0000000080000001L, 0x8000000080008081L, 0x8000000000008009L,
        0x000000000000008AL, 0x0000000000000088L, 0x0000000080008009L, 0x000000008000000AL,
        0x000000008000808BL, 0x800000000000008BL, 0x8000000000008089L, 0x8000000000008003L,
        0x8000000000008002L, 0x8000000000000080L, 0x000000000000800AL, 0x800000008000000AL,
        0x8000000080008081L, 0x8000000000008080L, 0x0000000080000001L, 0x8000000080008008L};

    private final Machine machine = new Machine();
    private final World world = machine.world;
    private final Bytes tape = machine.tape;
    private final int[] tellings = new int[7];
    /** Room for a NUMBER or two that a call brings. */
    private final int[] brought = new int[2 * LIMBS];
    private Bytes result = new Bytes(1024);
    private LogBook logs = new LogBook();

    public ContractMachine() {
    }

    public int feed(int a, int b, int c, int d, int e) throws IndexOutOfBoundsException {
        if (tape.length + 20 > TAPE_ROOM) {
            throw new IndexOutOfBoundsException();
        }
        tape.append(a);
        tape.append(b);
        tape.append(c);
        tape.append(d);
        tape.append(e);
        return tape.length;
    }

    public int end(int n) throws IllegalArgumentException {
        if (n < 0 || n > tape.length) {
            throw new IllegalArgumentException();
        }
        tape.length = n;
        return n;
    }

    public int code(long address) throws IllegalArgumentException, IndexOutOfBoundsException {
        if (address < 0) {
            throw new IllegalArgumentException();
        }
        int n = tape.length;
        int who = n > CODE_ROOM ? -1 : accountFor(address, n != 0);
        if (who < 0 && n != 0) {
            throw new IndexOutOfBoundsException();
        }
        if (who >= 0) {
            world.accounts[who].setProgram(tape.cells, n);
        }
        tape.length = 0;
        return n;
    }

    public void balance(long address, long high, long low) throws IllegalArgumentException, IndexOutOfBoundsException {
        if (address < 0) {
            throw new IllegalArgumentException();
        }
        boolean some = (high | low) != 0;
        int who = accountFor(address, some);
        if (who < 0 && some) {
            throw new IndexOutOfBoundsException();
        }
        if (who >= 0) {
            Numbers.set(brought, 0, high, low);
            world.write(who, brought, 0);
        }
    }

    public void store(long address, long p, long high, long low)
            throws IllegalArgumentException, IndexOutOfBoundsException {
        if (address < 0) {
            throw new IllegalArgumentException();
        }
        boolean some = (high | low) != 0;
        if (some && !world.hasRoomFor(address, p, brought)) {
            throw new IndexOutOfBoundsException();
        }
        int who = accountFor(address, some);
        Numbers.set(brought, 0, 0, p);
        Numbers.set(brought, LIMBS, high, low);
        int place = some ? world.openPlace(who, brought, 0) : world.findPlace(who, brought, 0);
        if (place >= 0) {
            world.write(MOST_ACCOUNTS + place, brought, LIMBS);
        }
    }

    public void environment(int what, long v) throws IllegalArgumentException {
        if (what < 0 || what > 6) {
            throw new IllegalArgumentException();
        }
        machine.surroundings[what] = v;
    }

    public int run(long from, long to, long value, int gas)
            throws IllegalArgumentException, UnsupportedOperationException, IndexOutOfBoundsException {
        if (from < 0 || to < 0 || gas < 0 || gas > MOST_GAS) {
            throw new IllegalArgumentException();
        }
        if (!canPay(from, value)) {
            throw new UnsupportedOperationException();
        }
        machine.start(from, to, value, gas);
        for (int k = 0; k < MOST_STEPS && machine.isGoing(); k++) {
            machine.step();
        }
        if (machine.limitPassed) {
            world.forgetRun();
            throw new IndexOutOfBoundsException();
        }
        keepRun();
        return machine.outcome;
    }

    public int told(int what) throws IllegalArgumentException {
        if (what < 0 || what > 6) {
            throw new IllegalArgumentException();
        }
        return tellings[what];
    }

    public long log(int i, int what) throws IllegalArgumentException, NoSuchElementException {
        if (what < 0 || what > 6) {
            throw new IllegalArgumentException();
        }
        if (i < 0 || i >= logs.count || what >= 3 + logs.topicCounts[i]) {
            throw new NoSuchElementException();
        }
        switch (what) {
            case 0: return logs.senders[i];
            case 1: return logs.topicCounts[i];
            case 2: return logs.lengths[i];
            default: return logs.topics[4 * i + what - 3];
        }
    }

    public long logWord(int i, int j) throws NoSuchElementException {
        if (i < 0 || i >= logs.count || j < 0 || j >= logs.lengths[i]) {
            throw new NoSuchElementException();
        }
        int start = logs.starts[i];
        return Bytes.eight(logs.cells, start + j, start + logs.lengths[i]);
    }

    public long word(int i) throws NoSuchElementException {
        if (i < 0 || i >= result.length) {
            throw new NoSuchElementException();
        }
        return Bytes.eight(result.cells, i, result.length);
    }

    public long balanceOf(long address, int part) throws IllegalArgumentException {
        if (address < 0 || part < 0 || part > 3) {
            throw new IllegalArgumentException();
        }
        int who = accountFor(address, false);
        return who < 0 ? 0 : Numbers.part(world.values, who * LIMBS, part);
    }

    public long stored(long address, long p3, long p2, long p1, long p0, int part) throws IllegalArgumentException {
        if (address < 0 || part < 0 || part > 3) {
            throw new IllegalArgumentException();
        }
        int who = accountFor(address, false);
        Numbers.set(brought, 0, p1, p0);
        Numbers.setHigh(brought, 0, p3, p2);
        world.load(who, brought, 0);
        return Numbers.part(brought, 0, part);
    }

    public int codeSize(long address) throws IllegalArgumentException {
        if (address < 0) {
            throw new IllegalArgumentException();
        }
        return world.programOf(accountFor(address, false)).length;
    }

    public long keccak(int part) throws IllegalArgumentException {
        if (part < 0 || part > 3) {
            throw new IllegalArgumentException();
        }
        machine.hasher.digest(tape.cells, 0, tape.length, brought, 0);
        return Numbers.part(brought, 0, part);
    }

    /** The ACCOUNT's row; -1 if there is none and none is to be opened, or the LIMIT forbids it. */
    private int accountFor(long address, boolean opens) {
        Numbers.set(brought, 0, 0, address);
        return opens ? world.openAccount(brought, 0) : world.addresses.find(brought, 0);
    }

    private boolean canPay(long from, long value) {
        int who = accountFor(from, false);
        Numbers.set(brought, LIMBS, 0, value);
        return world.hasAtLeast(who, brought, LIMBS);
    }

    /** What a RUN made is kept beside what is made anew, for one that throws must leave it as it is. */
    private void keepRun() {
        if (machine.outcome == SUCCEEDED) {
            world.buryDestroyed();
        }
        Bytes oldResult = result;
        result = machine.returned;
        machine.returned = oldResult;
        LogBook oldLogs = logs;
        logs = machine.logs;
        machine.logs = oldLogs;
        tellings[0] = (int) machine.frames[0].gas;
        tellings[1] = machine.refund;
        tellings[2] = logs.count;
        tellings[3] = machine.steps;
        tellings[4] = result.length;
        tellings[5] = world.touchedAddresses.count;
        tellings[6] = world.touchedPlaces.count;
        tape.length = 0;
    }

    /** NUMBERS that stand in rows of ints, each from a given index on. */
    private static final class Numbers {
        private Numbers() {
        }

        static void set(int[] s, int o, long high, long low) {
            s[o] = (int) low;
            s[o + 1] = (int) (low >>> 32);
            s[o + 2] = (int) high;
            s[o + 3] = (int) (high >>> 32);
            setHigh(s, o, 0, 0);
        }

        static void setHigh(int[] s, int o, long highest, long next) {
            s[o + 4] = (int) next;
            s[o + 5] = (int) (next >>> 32);
            s[o + 6] = (int) highest;
            s[o + 7] = (int) (highest >>> 32);
        }

        static void copyAddress(int[] from, int at, int[] to, int o) {
            System.arraycopy(from, at, to, o, ADDRESS_LIMBS);
            Arrays.fill(to, o + ADDRESS_LIMBS, o + LIMBS, 0);
        }

        static void copy(int[] from, int at, int[] to, int o) {
            System.arraycopy(from, at, to, o, LIMBS);
        }

        static void clear(int[] s, int o) {
            Arrays.fill(s, o, o + LIMBS, 0);
        }

        static boolean isZero(int[] s, int o) {
            return (s[o] | s[o + 1] | s[o + 2] | s[o + 3] | s[o + 4] | s[o + 5] | s[o + 6] | s[o + 7]) == 0;
        }

        static boolean isNegative(int[] s, int o) {
            return s[o + 7] < 0;
        }

        static int compare(int[] s, int a, int[] t, int b) {
            for (int k = LIMBS - 1; k >= 0; k--) {
                if (s[a + k] != t[b + k]) {
                    return (s[a + k] ^ SIGN) < (t[b + k] ^ SIGN) ? -1 : 1;
                }
            }
            return 0;
        }

        static boolean same(int[] s, int a, int[] t, int b) {
            return compare(s, a, t, b) == 0;
        }

        /** The NUMBER if it is below 2^32, else HUGE. */
        static long small(int[] s, int o) {
            int rest = s[o + 1] | s[o + 2] | s[o + 3] | s[o + 4] | s[o + 5] | s[o + 6] | s[o + 7];
            return rest == 0 ? s[o] & LOW : HUGE;
        }

        static long part(int[] s, int o, int part) {
            int at = o + 6 - 2 * part;
            return (s[at + 1] & LOW) << 32 | s[at] & LOW;
        }

        static int bytesNeeded(int[] s, int o) {
            for (int k = 31; k >= 0; k--) {
                if ((s[o + (k >> 2)] >>> 8 * (k & 3) & 255) != 0) {
                    return k + 1;
                }
            }
            return 0;
        }

        /** t + s, at t. */
        static void add(int[] s, int a, int[] t, int b) {
            long sum = 0;
            for (int k = 0; k < LIMBS; k++) {
                sum += (s[a + k] & LOW) + (t[b + k] & LOW);
                t[b + k] = (int) sum;
                sum >>>= 32;
            }
        }

        /** t - s, at t. */
        static void take(int[] s, int a, int[] t, int b) {
            long rest = 0;
            for (int k = 0; k < LIMBS; k++) {
                rest += (t[b + k] & LOW) - (s[a + k] & LOW);
                t[b + k] = (int) rest;
                rest >>= 32;
            }
        }

        static void negate(int[] s, int o) {
            long rest = 0;
            for (int k = 0; k < LIMBS; k++) {
                rest -= s[o + k] & LOW;
                s[o + k] = (int) rest;
                rest >>= 32;
            }
        }

        /** The n bytes from a place on as a NUMBER, 0 for those at or behind the end. */
        static void read(byte[] bytes, int from, int end, int n, int[] s, int o) {
            clear(s, o);
            for (int k = 0; k < n && from + k < end; k++) {
                int low = n - 1 - k;
                s[o + (low >> 2)] |= (bytes[from + k] & 255) << 8 * (low & 3);
            }
        }

        static void spell(int[] s, int o, byte[] bytes, int to) {
            for (int k = 0; k < 32; k++) {
                int low = 31 - k;
                bytes[to + k] = (byte) (s[o + (low >> 2)] >>> 8 * (low & 3));
            }
        }
    }

    /** Sums on the STACK: a, b and c are where the NUMBERS stand, and the last of them is what it gives. */
    private static final class Sums {
        private final int[] wide = new int[17];
        private final int[] divisor = new int[LIMBS];
        private final int[] quotient = new int[16];
        private final int[] power = new int[LIMBS];

        void subtract(int[] s, int a, int b) {
            Numbers.take(s, b, s, a);
            Numbers.copy(s, a, s, b);
        }

        void multiply(int[] s, int a, int b) {
            spread(s, a, b, LIMBS);
            Numbers.copy(wide, 0, s, b);
        }

        void divide(int[] s, int a, int b, boolean wantsRest) {
            if (Numbers.isZero(s, b)) {
                return;
            }
            Numbers.copy(s, a, wide, 0);
            reduce(s, b, LIMBS);
            Numbers.copy(wantsRest ? wide : quotient, 0, s, b);
        }

        void divideSigned(int[] s, int a, int b, boolean wantsRest) {
            boolean first = Numbers.isNegative(s, a);
            boolean second = Numbers.isNegative(s, b);
            if (first) {
                Numbers.negate(s, a);
            }
            if (second) {
                Numbers.negate(s, b);
            }
            divide(s, a, b, wantsRest);
            if (wantsRest ? first : first != second) {
                Numbers.negate(s, b);
            }
        }

        void addModulo(int[] s, int a, int b, int c) {
            if (Numbers.isZero(s, c)) {
                return;
            }
            long sum = 0;
            for (int k = 0; k < LIMBS; k++) {
                sum += (s[a + k] & LOW) + (s[b + k] & LOW);
                wide[k] = (int) sum;
                sum >>>= 32;
            }
            wide[LIMBS] = (int) sum;
            reduce(s, c, LIMBS + 1);
            Numbers.copy(wide, 0, s, c);
        }

        void multiplyModulo(int[] s, int a, int b, int c) {
            if (Numbers.isZero(s, c)) {
                return;
            }
            spread(s, a, b, 2 * LIMBS);
            reduce(s, c, 2 * LIMBS);
            Numbers.copy(wide, 0, s, c);
        }

        void raise(int[] s, int a, int b) {
            Numbers.copy(s, b, power, 0);
            int bits = 8 * Numbers.bytesNeeded(power, 0);
            Numbers.set(s, b, 0, 1);
            for (int bit = bits - 1; bit >= 0; bit--) {
                multiply(s, b, b);
                if ((power[bit >> 5] >>> (bit & 31) & 1) != 0) {
                    multiply(s, a, b);
                }
            }
        }

        void extendSign(int[] s, int a, int b) {
            long which = Numbers.small(s, a);
            if (which >= 31) {
                return;
            }
            int bit = 8 * (int) which + 7;
            int limb = b + (bit >> 5);
            int above = 31 - (bit & 31);
            s[limb] = s[limb] << above >> above;
            Arrays.fill(s, limb + 1, b + LIMBS, s[limb] >> 31);
        }

        void pickByte(int[] s, int a, int b) {
            long which = Numbers.small(s, a);
            int low = which > 31 ? 0 : 31 - (int) which;
            int picked = s[b + (low >> 2)] >>> 8 * (low & 3) & 255;
            Numbers.set(s, b, 0, which > 31 ? 0 : picked);
        }

        void shiftLeft(int[] s, int a, int b) {
            int n = (int) Math.min(Numbers.small(s, a), 256);
            int far = n >> 5;
            int near = n & 31;
            for (int k = LIMBS - 1; k >= 0; k--) {
                int high = k - far >= 0 ? s[b + k - far] : 0;
                int low = k - far - 1 >= 0 ? s[b + k - far - 1] : 0;
                s[b + k] = near == 0 ? high : high << near | low >>> 32 - near;
            }
        }

        void shiftRight(int[] s, int a, int b, boolean signed) {
            int n = (int) Math.min(Numbers.small(s, a), 256);
            int far = n >> 5;
            int near = n & 31;
            int fill = signed ? s[b + 7] >> 31 : 0;
            for (int k = 0; k < LIMBS; k++) {
                int low = k + far < LIMBS ? s[b + k + far] : fill;
                int high = k + far + 1 < LIMBS ? s[b + k + far + 1] : fill;
                s[b + k] = near == 0 ? low : low >>> near | high << 32 - near;
            }
        }

        int compareSigned(int[] s, int a, int b) {
            if (Numbers.isNegative(s, a) != Numbers.isNegative(s, b)) {
                return Numbers.isNegative(s, a) ? -1 : 1;
            }
            return Numbers.compare(s, a, s, b);
        }

        /** The lowest limbs of a product, into wide. */
        private void spread(int[] s, int a, int b, int limbs) {
            Arrays.fill(wide, 0);
            for (int i = 0; i < LIMBS; i++) {
                long factor = s[a + i] & LOW;
                long sum = 0;
                for (int j = 0; j < LIMBS && i + j < limbs; j++) {
                    sum += factor * (s[b + j] & LOW) + (wide[i + j] & LOW);
                    wide[i + j] = (int) sum;
                    sum >>>= 32;
                }
                if (i + LIMBS < limbs) {
                    wide[i + LIMBS] = (int) sum;
                }
            }
        }

        /** Divides what stands in wide (Knuth's algorithm D); the rest stays there. The divisor is not 0. */
        private void reduce(int[] s, int o, int limbs) {
            Numbers.copy(s, o, divisor, 0);
            Arrays.fill(quotient, 0);
            int n = length(divisor, LIMBS);
            int m = length(wide, limbs);
            int shift = n == 0 ? 0 : leadingZeros(divisor[n - 1]);
            wide[m] = 0;
            widen(divisor, n, shift);
            widen(wide, m + 1, shift);
            for (int j = m - n; j >= 0 && n > 0; j--) {
                quotient[j] = digit(j, n);
            }
            for (int k = 0; k <= m && shift > 0; k++) {
                int high = k < m ? wide[k + 1] : 0;
                wide[k] = wide[k] >>> shift | high << 32 - shift;
            }
        }

        private static int length(int[] row, int most) {
            for (int k = most; k > 0; k--) {
                if (row[k - 1] != 0) {
                    return k;
                }
            }
            return 0;
        }

        private static int leadingZeros(int limb) {
            int zeros = 0;
            while (zeros < 31 && limb << zeros >= 0) {
                zeros++;
            }
            return zeros;
        }

        private static void widen(int[] row, int limbs, int shift) {
            for (int k = limbs - 1; k >= 0 && shift > 0; k--) {
                int low = k > 0 ? row[k - 1] : 0;
                row[k] = row[k] << shift | low >>> 32 - shift;
            }
        }

        /** Limb j of the quotient, taken off what stands in wide. */
        private int digit(int j, int n) {
            long top = divisor[n - 1] & LOW;
            long next = n > 1 ? divisor[n - 2] & LOW : 0;
            long third = n > 1 ? wide[j + n - 2] & LOW : 0;
            long head = (long) wide[j + n] << 32 | wide[j + n - 1] & LOW;
            // half of it first, for Java divides with sign
            long guess = (wide[j + n] & LOW) >= top ? LOW : (head >>> 1) / top << 1;
            long rest = head - guess * top;
            if (guess != LOW && rest >= top) {
                guess++;
                rest -= top;
            }
            for (int k = 0; k < 2 && rest <= LOW && isAbove(guess * next, rest << 32 | third); k++) {
                guess--;
                rest += top;
            }
            if (takeTimes(guess, j, n)) {
                giveBack(j, n);
                guess--;
            }
            return (int) guess;
        }

        private static boolean isAbove(long x, long y) {
            return (x ^ LONG_SIGN) > (y ^ LONG_SIGN);
        }

        /** Takes the divisor so many times off wide from limb j on; true if that was once too often. */
        private boolean takeTimes(long times, int j, int n) {
            long product = 0;
            long rest = 0;
            for (int k = 0; k < n; k++) {
                product += times * (divisor[k] & LOW);
                rest += (wide[j + k] & LOW) - (product & LOW);
                wide[j + k] = (int) rest;
                product >>>= 32;
                rest >>= 32;
            }
            rest += (wide[j + n] & LOW) - product;
            wide[j + n] = (int) rest;
            return rest < 0;
        }

        private void giveBack(int j, int n) {
            long sum = 0;
            for (int k = 0; k < n; k++) {
                sum += (wide[j + k] & LOW) + (divisor[k] & LOW);
                wide[j + k] = (int) sum;
                sum >>>= 32;
            }
            wide[j + n] += (int) sum;
        }
    }

    /** KECCAK of 256 bits. */
    private static final class Keccak {
        private static final int RATE = 136;

        private final long[] state = new long[25];
        private final long[] row = new long[5];

        /** KECCAK of n bytes as a NUMBER at s. */
        void digest(byte[] bytes, int from, int n, int[] s, int o) {
            Arrays.fill(state, 0);
            int at = 0;
            for (int k = 0; k < n; k++) {
                mix(at, bytes[from + k]);
                at++;
                if (at == RATE) {
                    permute();
                    at = 0;
                }
            }
            mix(at, 0x01);
            mix(RATE - 1, 0x80);
            permute();
            for (int k = 0; k < 32; k++) {
                int low = 31 - k;
                int cell = (int) (state[k >> 3] >>> 8 * (k & 7)) & 255;
                int kept = (low & 3) == 3 ? 0 : s[o + (low >> 2)];
                s[o + (low >> 2)] = kept | cell << 8 * (low & 3);
            }
        }

        private void mix(int at, int cell) {
            state[at >> 3] ^= (cell & 255L) << 8 * (at & 7);
        }

        private void permute() {
            for (int round = 0; round < 24; round++) {
                mixColumns();
                turnAndMove();
                mixRows();
                state[0] ^= KECCAK_ROUNDS[round];
            }
        }

        private void mixColumns() {
            for (int x = 0; x < 5; x++) {
                row[x] = state[x] ^ state[x + 5] ^ state[x + 10] ^ state[x + 15] ^ state[x + 20];
            }
            for (int x = 0; x < 5; x++) {
                long next = row[x < 4 ? x + 1 : 0];
                long mask = row[x > 0 ? x - 1 : 4] ^ (next << 1 | next >>> 63);
                for (int y = 0; y < 25; y += 5) {
                    state[x + y] ^= mask;
                }
            }
        }

        private void turnAndMove() {
            long moving = state[1];
            for (int k = 0; k < 24; k++) {
                int to = KECCAK_WAY[k];
                int turn = KECCAK_TURNS[k];
                long next = state[to];
                state[to] = moving << turn | moving >>> 64 - turn;
                moving = next;
            }
        }

        private void mixRows() {
            for (int y = 0; y < 25; y += 5) {
                for (int x = 0; x < 5; x++) {
                    row[x] = state[y + x];
                }
                for (int x = 0; x < 5; x++) {
                    state[y + x] = row[x] ^ ~row[x < 4 ? x + 1 : 0] & row[x < 3 ? x + 2 : x - 3];
                }
            }
        }
    }

    /** Bytes of a length that changes, in a row that is used again. */
    private static final class Bytes {
        byte[] cells;
        int length;

        Bytes(int room) {
            cells = new byte[room];
        }

        /** Four bytes, for which the caller has seen that there is room. */
        void append(int four) {
            for (int k = 0; k < 4 && length < cells.length; k++) {
                cells[length] = (byte) (four >>> 24 - 8 * k);
                length++;
            }
        }

        void set(byte[] from, int at, int n) {
            if (n > cells.length) {
                cells = new byte[Math.max(n, Math.min(8 * cells.length, MOST_MEMORY))];
            }
            if (n > 0) {
                System.arraycopy(from, at, cells, 0, n);
            }
            length = n;
        }

        /** Eight bytes, the highest first, 0 for those at or behind the end. */
        static long eight(byte[] bytes, int from, int end) {
            long eight = 0;
            for (int k = 0; k < 8; k++) {
                int cell = k < end - from ? bytes[from + k] & 255 : 0;
                eight = eight << 8 | cell;
            }
            return eight;
        }
    }

    /** Keys of so many ints each, in the order in which they came. */
    private static final class Rows {
        private final int width;
        private final int most;
        private final int[] cells;
        int count;

        Rows(int width, int most) {
            this.width = width;
            this.most = most;
            cells = new int[width * most];
        }

        boolean isFull() {
            return count >= most;
        }

        /** Which row has this key, -1 if none. */
        int find(int[] key, int at) {
            for (int r = 0; r < count; r++) {
                int from = r * width;
                int k = 0;
                while (k < width && cells[from + k] == key[at + k]) {
                    k++;
                }
                if (k == width) {
                    return r;
                }
            }
            return -1;
        }

        /** The new row, -1 if there is no room. */
        int add(int[] key, int at) {
            if (isFull()) {
                return -1;
            }
            System.arraycopy(key, at, cells, count * width, width);
            count++;
            return count - 1;
        }

        int last(int row) {
            return cells[row * width + width - 1];
        }
    }

    /** CODE, where it may be jumped to, and its KECCAK once that was asked for. */
    private static final class Program {
        byte[] cells = new byte[0];
        boolean[] jumps = new boolean[0];
        int length;
        private final int[] digest = new int[LIMBS];
        private boolean isDigested;

        void setProgram(byte[] from, int n) {
            if (cells.length < n) {
                cells = new byte[CODE_ROOM];
                jumps = new boolean[CODE_ROOM];
            }
            if (n > 0) {
                System.arraycopy(from, 0, cells, 0, n);
            }
            length = n;
            isDigested = false;
            int behindPush = 0;
            for (int k = 0; k < n; k++) {
                int op = cells[k] & 255;
                jumps[k] = k >= behindPush && op == JUMPDEST;
                if (k >= behindPush && op >= PUSH1 && op <= PUSH32) {
                    behindPush = k + op - PUSH1 + 2;
                }
            }
        }

        void copyDigest(Keccak hasher, int[] s, int o) {
            if (!isDigested) {
                hasher.digest(cells, 0, length, digest, 0);
                isDigested = true;
            }
            Numbers.copy(digest, 0, s, o);
        }
    }

    /** THE WORLD with what was TOUCHED and DESTROYED in a RUN, and what is needed to take changes back. */
    private static final class World {
        final Rows addresses = new Rows(ADDRESS_LIMBS, MOST_ACCOUNTS);
        final Program[] accounts = new Program[MOST_ACCOUNTS];
        final Program nothing = new Program();
        /** The key of a place is its NUMBER and the row of its ACCOUNT. */
        final Rows places = new Rows(LIMBS + 1, MOST_PLACES);
        final Rows touchedAddresses = new Rows(ADDRESS_LIMBS, MOST_TOUCHED);
        final Rows touchedPlaces = new Rows(LIMBS + 1, MOST_TOUCHED);
        /** Slots for NUMBERS: the BALANCES, then what the places have. */
        final int[] values = new int[(MOST_ACCOUNTS + MOST_PLACES) * LIMBS];
        /** What the slots had when the RUN began. */
        final int[] originals = new int[(MOST_ACCOUNTS + MOST_PLACES) * LIMBS];
        private final int[] changedSlots = new int[MOST_CHANGES];
        private final int[] oldValues = new int[MOST_CHANGES * LIMBS];
        int changes;
        private final int[] destroyed = new int[MOST_ACCOUNTS];
        int destroyedCount;
        private final int[] key = new int[LIMBS + 1];
        private int accountsBefore;
        private int placesBefore;

        World() {
            for (int k = 0; k < MOST_ACCOUNTS; k++) {
                accounts[k] = new Program();
            }
        }

        /**
         * The row of the ACCOUNT, a new one if need be; -1 if that passes the LIMIT. A new row has nothing:
         * one that was cut off with a RUN that threw had its changes taken back before.
         */
        int openAccount(int[] s, int o) {
            int who = addresses.find(s, o);
            return who < 0 ? addresses.add(s, o) : who;
        }

        Program programOf(int who) {
            return who < 0 ? nothing : accounts[who];
        }

        boolean isDead(int who) {
            return programOf(who).length == 0 && !hasBalance(who);
        }

        boolean hasBalance(int who) {
            return who >= 0 && !Numbers.isZero(values, who * LIMBS);
        }

        boolean hasAtLeast(int who, int[] s, int o) {
            return who < 0 ? Numbers.isZero(s, o) : Numbers.compare(values, who * LIMBS, s, o) >= 0;
        }

        void copyBalance(int who, int[] s, int o) {
            if (who < 0) {
                Numbers.clear(s, o);
            } else {
                Numbers.copy(values, who * LIMBS, s, o);
            }
        }

        int findPlace(int who, int[] s, int o) {
            setKey(who, s, o);
            return places.find(key, 0);
        }

        /** The row of the place, a new one if need be; -1 if that passes the LIMIT. */
        int openPlace(int who, int[] s, int o) {
            int place = findPlace(who, s, o);
            return place < 0 ? places.add(key, 0) : place;
        }

        /** Whether a NUMBER that is not 0 can come to the place without passing a LIMIT. */
        boolean hasRoomFor(long address, long p, int[] room) {
            Numbers.set(room, 0, 0, address);
            int who = addresses.find(room, 0);
            if (who < 0) {
                return !addresses.isFull() && !places.isFull();
            }
            Numbers.set(room, 0, 0, p);
            return findPlace(who, room, 0) >= 0 || !places.isFull();
        }

        /** Puts what the place has where its NUMBER stood. */
        void load(int who, int[] s, int o) {
            int place = findPlace(who, s, o);
            if (place < 0) {
                Numbers.clear(s, o);
            } else {
                Numbers.copy(values, (MOST_ACCOUNTS + place) * LIMBS, s, o);
            }
        }

        void write(int slot, int[] s, int o) {
            Numbers.copy(s, o, values, slot * LIMBS);
        }

        /** Remembers what a slot has before a step changes it. */
        void remember(int slot) {
            if (changes < MOST_CHANGES) {
                changedSlots[changes] = slot;
                System.arraycopy(values, slot * LIMBS, oldValues, changes * LIMBS, LIMBS);
                changes++;
            }
        }

        void takeBack(int mark) {
            for (int k = changes - 1; k >= mark; k--) {
                write(changedSlots[k], oldValues, k * LIMBS);
            }
            changes = mark;
        }

        /** Moves an amount that the giver has; it may be the giver's own BALANCE itself. */
        void move(int from, int to, int[] amount, int o) {
            remember(from);
            remember(to);
            Numbers.add(amount, o, values, to * LIMBS);
            Numbers.take(amount, o, values, from * LIMBS);
        }

        void dropBalance(int who) {
            remember(who);
            Numbers.clear(values, who * LIMBS);
        }

        boolean isTouched(int[] s, int o) {
            return touchedAddresses.find(s, o) >= 0;
        }

        boolean isPlaceTouched(int who, int[] s, int o) {
            setKey(who, s, o);
            return touchedPlaces.find(key, 0) >= 0;
        }

        void touch(int[] s, int o) {
            if (!isTouched(s, o)) {
                touchedAddresses.add(s, o);
            }
        }

        void touchPlace(int who, int[] s, int o) {
            if (!isPlaceTouched(who, s, o)) {
                touchedPlaces.add(key, 0);
            }
        }

        /** True if it was not DESTROYED before. */
        boolean destroy(int who) {
            for (int k = 0; k < destroyedCount; k++) {
                if (destroyed[k] == who) {
                    return false;
                }
            }
            if (destroyedCount < MOST_ACCOUNTS) {
                destroyed[destroyedCount] = who;
                destroyedCount++;
            }
            return true;
        }

        void beginRun() {
            changes = 0;
            destroyedCount = 0;
            touchedAddresses.count = 0;
            touchedPlaces.count = 0;
            accountsBefore = addresses.count;
            placesBefore = places.count;
            System.arraycopy(values, 0, originals, 0, (MOST_ACCOUNTS + places.count) * LIMBS);
        }

        /** All is as before a RUN that throws, also what counts for the LIMITS. */
        void forgetRun() {
            takeBack(0);
            addresses.count = accountsBefore;
            places.count = placesBefore;
        }

        void buryDestroyed() {
            for (int k = 0; k < destroyedCount; k++) {
                int who = destroyed[k];
                Numbers.clear(values, who * LIMBS);
                accounts[who].setProgram(nothing.cells, 0);
                for (int place = 0; place < places.count; place++) {
                    if (places.last(place) == who) {
                        Numbers.clear(values, (MOST_ACCOUNTS + place) * LIMBS);
                    }
                }
            }
        }

        private void setKey(int who, int[] s, int o) {
            System.arraycopy(s, o, key, 0, LIMBS);
            key[LIMBS] = who;
        }
    }

    /** The LOGS of a RUN. */
    private static final class LogBook {
        final long[] senders = new long[MOST_LOGS];
        final int[] topicCounts = new int[MOST_LOGS];
        final long[] topics = new long[4 * MOST_LOGS];
        final int[] starts = new int[MOST_LOGS];
        final int[] lengths = new int[MOST_LOGS];
        final byte[] cells = new byte[MOST_LOG_BYTES];
        int count;

        /** Opens a LOG of n bytes; false if it passes a LIMIT. */
        boolean open(long sender, int topicCount, byte[] bytes, int from, int n) {
            int start = count == 0 ? 0 : starts[count - 1] + lengths[count - 1];
            if (count >= MOST_LOGS || start + n > MOST_LOG_BYTES) {
                return false;
            }
            senders[count] = sender;
            topicCounts[count] = topicCount;
            starts[count] = start;
            lengths[count] = n;
            if (n > 0) {
                System.arraycopy(bytes, from, cells, start, n);
            }
            count++;
            return true;
        }
    }

    /** A MESSAGE on its way; one for each DEPTH is made once and used again. */
    private static final class Frame {
        /** ADDRESSES as NUMBERS, so that they can come to the STACK as they are. */
        final int[] sender = new int[LIMBS];
        final int[] address = new int[LIMBS];
        final int[] value = new int[LIMBS];
        /** The row of the ACCOUNT at its ADDRESS; -1 only if there is none, and then there is no CODE to do. */
        int self;
        Program program = new Program();
        boolean isStatic;
        long gas;
        int place;
        int[] stack = new int[0];
        int height;
        int memoryFrom;
        int memorySize;
        int dataFrom;
        int dataLength;
        int roomFrom;
        int roomLength;
        /** What REFUND and the lists of changes were before it. */
        final int[] marks = new int[6];

        int nextByte() {
            return place < program.length ? program.cells[place] & 255 : STOP;
        }

        /** Pays what a step costs in any case and goes behind it; false if it FAILS. */
        boolean beginStep(int op) {
            int after = height - TAKES[op] + GIVES[op];
            boolean changes = op == SSTORE || op == SELFDESTRUCT || op >= LOG0 && op <= LOG4;
            if (GAS[op] < 0 || height < TAKES[op] || after > STACK_ROOM || isStatic && changes || gas < GAS[op]) {
                return false;
            }
            gas -= GAS[op];
            height = after;
            place++;
            return true;
        }

        void begin(Program does) {
            program = does;
            place = 0;
            height = 0;
            memorySize = 0;
            if (stack.length == 0) {
                stack = new int[STACK_ROOM * LIMBS];
            }
        }
    }

    /** Does RUNS, step by step. */
    private static final class Machine {
        final World world = new World();
        final Bytes tape = new Bytes(TAPE_ROOM);
        final Keccak hasher = new Keccak();
        final long[] surroundings = new long[7];
        private final Sums sums = new Sums();
        final Frame[] frames = new Frame[DEEPEST + 1];
        /** The MEMORY of all open MESSAGES, each behind its caller's. */
        private byte[] memory = new byte[8192];
        /** RETURNED of the innermost MESSAGE, the only one whose data can still be asked for. */
        Bytes returned = new Bytes(1024);
        LogBook logs = new LogBook();
        private int depth;
        int steps;
        int refund;
        int outcome;
        boolean limitPassed;

        Machine() {
            for (int k = 0; k <= DEEPEST; k++) {
                frames[k] = new Frame();
            }
        }

        void start(long from, long to, long value, int gas) {
            world.beginRun();
            logs.count = 0;
            steps = 0;
            refund = 0;
            outcome = GOING;
            limitPassed = false;
            depth = 0;
            Frame f = frames[0];
            Numbers.set(f.sender, 0, 0, from);
            Numbers.set(f.address, 0, 0, to);
            Numbers.set(f.value, 0, 0, value);
            f.isStatic = false;
            f.gas = gas;
            f.memoryFrom = 0;
            f.dataFrom = 0;
            f.dataLength = tape.length;
            world.touch(f.sender, 0);
            world.touch(f.address, 0);
            mark(f);
            moveValue(f, world.addresses.find(f.sender, 0));
            enter(f, f.address, 0);
        }

        boolean isGoing() {
            return depth >= 0 && !limitPassed;
        }

        /** Does one step; here and below steps go by their bytes, as the document lists them. */
        void step() {
            Frame f = frames[depth];
            int op = f.nextByte();
            int a = (f.height - 1) * LIMBS;
            outcome = GOING;
            steps++;
            switch (f.beginStep(op) ? op >> 4 : NO_STEP) {
                case 0x0: arithmetic(f, op, a); break;
                case 0x1: compareOrMask(f.stack, op, a); break;
                case 0x2: digestMemory(f, a); break;
                case 0x3: surrounding(f, op, a); break;
                case 0x4: block(f, op, a + LIMBS); break;
                case 0x5: memoryStorageFlow(f, op, a); break;
                case 0x6:
                case 0x7: push(f, op - PUSH1 + 1, a + LIMBS); break;
                case 0x8: Numbers.copy(f.stack, a - (op & 15) * LIMBS, f.stack, a + LIMBS); break;
                case 0x9: swap(f.stack, a, a - ((op & 15) + 1) * LIMBS); break;
                case 0xA: writeLog(f, op - LOG0, a); break;
                case 0xF:
                    if (GIVES[op] == 1) {
                        callOut(f, op, a);
                    } else {
                        leave(f, op, a);
                    }
                    break;
                default: finish(FAILED); break;
            }
            if (outcome != GOING) {
                close(f);
            }
        }

        private void arithmetic(Frame f, int op, int a) {
            int[] s = f.stack;
            int b = a - LIMBS;
            int c = b - LIMBS;
            switch (op) {
                case 0x01: Numbers.add(s, a, s, b); break;
                case 0x02: sums.multiply(s, a, b); break;
                case 0x03: sums.subtract(s, a, b); break;
                case 0x04: sums.divide(s, a, b, false); break;
                case 0x05: sums.divideSigned(s, a, b, false); break;
                case 0x06: sums.divide(s, a, b, true); break;
                case 0x07: sums.divideSigned(s, a, b, true); break;
                case 0x08: sums.addModulo(s, a, b, c); break;
                case 0x09: sums.multiplyModulo(s, a, b, c); break;
                case 0x0A:
                    if (pay(f, 50L * Numbers.bytesNeeded(s, b))) {
                        sums.raise(s, a, b);
                    }
                    break;
                case 0x0B: sums.extendSign(s, a, b); break;
                default: finish(SUCCEEDED); break;
            }
        }

        private void compareOrMask(int[] s, int op, int a) {
            int b = a - LIMBS;
            switch (op) {
                case 0x10: answer(s, b, Numbers.compare(s, a, s, b) < 0); break;
                case 0x11: answer(s, b, Numbers.compare(s, a, s, b) > 0); break;
                case 0x12: answer(s, b, sums.compareSigned(s, a, b) < 0); break;
                case 0x13: answer(s, b, sums.compareSigned(s, a, b) > 0); break;
                case 0x14: answer(s, b, Numbers.same(s, a, s, b)); break;
                case 0x15: answer(s, a, Numbers.isZero(s, a)); break;
                case 0x1A: sums.pickByte(s, a, b); break;
                case 0x1B: sums.shiftLeft(s, a, b); break;
                case 0x1C: sums.shiftRight(s, a, b, false); break;
                case 0x1D: sums.shiftRight(s, a, b, true); break;
                default: mask(s, op, a, b); break;
            }
        }

        private static void answer(int[] s, int o, boolean yes) {
            Numbers.set(s, o, 0, yes ? 1 : 0);
        }

        private static void mask(int[] s, int op, int a, int b) {
            for (int k = 0; k < LIMBS; k++) {
                switch (op) {
                    case 0x16: s[b + k] &= s[a + k]; break;
                    case 0x17: s[b + k] |= s[a + k]; break;
                    case 0x18: s[b + k] ^= s[a + k]; break;
                    default: s[a + k] = ~s[a + k]; break;
                }
            }
        }

        private void digestMemory(Frame f, int a) {
            int b = a - LIMBS;
            long from = Numbers.small(f.stack, a);
            long n = Numbers.small(f.stack, b);
            if (pay(f, 6 * ((n + 31) / 32)) && reach(f, from, n)) {
                hasher.digest(memory, inMemory(f, from, n), (int) n, f.stack, b);
            }
        }

        private void surrounding(Frame f, int op, int a) {
            int[] s = f.stack;
            int next = a + LIMBS;
            switch (op) {
                case 0x30: Numbers.copy(f.address, 0, s, next); break;
                case 0x32: Numbers.copy(frames[0].sender, 0, s, next); break;
                case 0x33: Numbers.copy(f.sender, 0, s, next); break;
                case 0x34: Numbers.copy(f.value, 0, s, next); break;
                case 0x35: loadData(f, a); break;
                case 0x36: Numbers.set(s, next, 0, f.dataLength); break;
                case 0x37: copyToMemory(f, a, dataSource(), f.dataFrom, f.dataLength); break;
                case 0x38: Numbers.set(s, next, 0, f.program.length); break;
                case 0x39: copyToMemory(f, a, f.program.cells, 0, f.program.length); break;
                case 0x3A: Numbers.set(s, next, 0, surroundings[0]); break;
                case 0x3D: Numbers.set(s, next, 0, returned.length); break;
                case 0x3E: copyReturned(f, a); break;
                default: lookAtAccount(f, op, a); break;
            }
        }

        private void lookAtAccount(Frame f, int op, int a) {
            int[] s = f.stack;
            if (!pay(f, accessCost(s, a))) {
                return;
            }
            world.touch(s, a);
            int who = world.addresses.find(s, a);
            Program program = world.programOf(who);
            switch (op) {
                case 0x31: world.copyBalance(who, s, a); break;
                case 0x3B: Numbers.set(s, a, 0, program.length); break;
                case 0x3C: copyToMemory(f, a - LIMBS, program.cells, 0, program.length); break;
                default:
                    if (world.isDead(who)) {
                        Numbers.clear(s, a);
                    } else {
                        program.copyDigest(hasher, s, a);
                    }
                    break;
            }
        }

        private void block(Frame f, int op, int next) {
            if (op == 0x47) {
                world.copyBalance(f.self, f.stack, next);
            } else {
                Numbers.set(f.stack, next, 0, surroundings[op & 7]);
            }
        }

        private void memoryStorageFlow(Frame f, int op, int a) {
            int[] s = f.stack;
            int b = a - LIMBS;
            switch (op) {
                case 0x50: break;
                case 0x51:
                case 0x52:
                case 0x53: useMemory(f, op, a); break;
                case 0x54: loadPlace(f, a); break;
                case 0x55: storePlace(f, a); break;
                case 0x56: jump(f, a); break;
                case 0x57:
                    if (!Numbers.isZero(s, b)) {
                        jump(f, a);
                    }
                    break;
                case 0x58: Numbers.set(s, a + LIMBS, 0, f.place - 1); break;
                case 0x59: Numbers.set(s, a + LIMBS, 0, f.memorySize); break;
                case 0x5A: Numbers.set(s, a + LIMBS, 0, f.gas); break;
                default: break;
            }
        }

        private void useMemory(Frame f, int op, int a) {
            int[] s = f.stack;
            int n = op == 0x53 ? 1 : 32;
            long from = Numbers.small(s, a);
            if (!reach(f, from, n)) {
                return;
            }
            int at = inMemory(f, from, n);
            switch (op) {
                case 0x51: Numbers.read(memory, at, at + 32, 32, s, a); break;
                case 0x52: Numbers.spell(s, a - LIMBS, memory, at); break;
                default: memory[at] = (byte) s[a - LIMBS]; break;
            }
        }

        private void loadPlace(Frame f, int a) {
            boolean touched = world.isPlaceTouched(f.self, f.stack, a);
            if (pay(f, touched ? 100 : 2100)) {
                world.touchPlace(f.self, f.stack, a);
                world.load(f.self, f.stack, a);
            }
        }

        private void storePlace(Frame f, int a) {
            int[] s = f.stack;
            int b = a - LIMBS;
            if (f.gas <= 2300) {
                finish(FAILED);
                return;
            }
            long cost = world.isPlaceTouched(f.self, s, a) ? 0 : 2100;
            int place = world.findPlace(f.self, s, a);
            if (!pay(f, cost + storeCost(place, s, b))) {
                return;
            }
            world.touchPlace(f.self, s, a);
            refund += storeRefund(place, s, b);
            if (place < 0 && !Numbers.isZero(s, b)) {
                place = world.openPlace(f.self, s, a);
                limitPassed = place < 0;
            }
            if (place >= 0) {
                world.remember(MOST_ACCOUNTS + place);
                world.write(MOST_ACCOUNTS + place, s, b);
            }
        }

        private int storeCost(int place, int[] s, int b) {
            int slot = (MOST_ACCOUNTS + place) * LIMBS;
            if (place < 0) {
                return Numbers.isZero(s, b) ? 100 : 20000;
            }
            boolean isFresh = Numbers.same(world.originals, slot, world.values, slot);
            if (Numbers.same(s, b, world.values, slot) || !isFresh) {
                return 100;
            }
            return Numbers.isZero(world.originals, slot) ? 20000 : 2900;
        }

        private int storeRefund(int place, int[] s, int b) {
            int slot = (MOST_ACCOUNTS + place) * LIMBS;
            if (place < 0 || Numbers.same(s, b, world.values, slot)) {
                return 0;
            }
            boolean wasZero = Numbers.isZero(world.originals, slot);
            int cleared = !wasZero && Numbers.isZero(s, b) ? 15000 : 0;
            if (Numbers.same(world.originals, slot, world.values, slot)) {
                return cleared;
            }
            int filled = !wasZero && Numbers.isZero(world.values, slot) ? 15000 : 0;
            int restored = Numbers.same(world.originals, slot, s, b) ? wasZero ? 19900 : 2800 : 0;
            return cleared - filled + restored;
        }

        private void jump(Frame f, int a) {
            long to = Numbers.small(f.stack, a);
            if (to < f.program.length && f.program.jumps[(int) to]) {
                f.place = (int) to;
            } else {
                finish(FAILED);
            }
        }

        private void push(Frame f, int n, int next) {
            Numbers.read(f.program.cells, f.place, f.program.length, n, f.stack, next);
            f.place += n;
        }

        private static void swap(int[] s, int a, int b) {
            for (int k = 0; k < LIMBS; k++) {
                int limb = s[a + k];
                s[a + k] = s[b + k];
                s[b + k] = limb;
            }
        }

        private void writeLog(Frame f, int topicCount, int a) {
            int[] s = f.stack;
            long from = Numbers.small(s, a);
            long n = Numbers.small(s, a - LIMBS);
            if (!pay(f, 8 * n) || !reach(f, from, n)) {
                return;
            }
            int place = 4 * logs.count;
            long sender = Numbers.part(f.address, 0, 3);
            if (!logs.open(sender, topicCount, memory, inMemory(f, from, n), (int) n)) {
                limitPassed = true;
                return;
            }
            for (int k = 0; k < topicCount; k++) {
                logs.topics[place + k] = Numbers.part(s, a - (2 + k) * LIMBS, 3);
            }
        }

        private void leave(Frame f, int op, int a) {
            switch (op) {
                case RETURN: giveBack(f, a, SUCCEEDED); break;
                case REVERT: giveBack(f, a, REVERTED); break;
                default: destroy(f, a); break;
            }
        }

        private void giveBack(Frame f, int a, int how) {
            long from = Numbers.small(f.stack, a);
            long n = Numbers.small(f.stack, a - LIMBS);
            if (reach(f, from, n)) {
                returned.set(memory, inMemory(f, from, n), (int) n);
                outcome = how;
            }
        }

        private void destroy(Frame f, int a) {
            int[] s = f.stack;
            int heir = world.addresses.find(s, a);
            boolean hasSome = world.hasBalance(f.self);
            long cost = world.isTouched(s, a) ? 0 : 2600;
            if (!pay(f, cost + (hasSome && world.isDead(heir) ? 25000 : 0))) {
                return;
            }
            world.touch(s, a);
            if (hasSome && heir == f.self) {
                world.dropBalance(heir);
            } else if (hasSome) {
                heir = world.openAccount(s, a);
                if (heir < 0) {
                    limitPassed = true;
                    return;
                }
                world.move(f.self, heir, world.values, f.self * LIMBS);
            }
            if (world.destroy(f.self)) {
                refund += 24000;
            }
            finish(SUCCEEDED);
        }

        private void callOut(Frame f, int op, int a) {
            int[] s = f.stack;
            int b = a - LIMBS;
            boolean isValued = op == CALL || op == CALLCODE;
            int d = isValued ? b - 2 * LIMBS : b - LIMBS;
            boolean pays = isValued && !Numbers.isZero(s, b - LIMBS);
            if (op == CALL && pays && f.isStatic) {
                finish(FAILED);
                return;
            }
            long cost = accessCost(s, b) + (pays ? 9000 : 0);
            if (op == CALL && pays && world.isDead(world.addresses.find(s, b))) {
                cost += 25000;
            }
            if (!reach(f, Numbers.small(s, d), Numbers.small(s, d - LIMBS))
                    || !reach(f, Numbers.small(s, d - 2 * LIMBS), Numbers.small(s, d - 3 * LIMBS))
                    || !pay(f, cost)) {
                return;
            }
            world.touch(s, b);
            long given = Math.min(f.gas - f.gas / 64, Numbers.small(s, a));
            if (depth == DEEPEST || pays && !world.hasAtLeast(f.self, s, b - LIMBS)) {
                // the gas comes back with the 2300, so they are a gift here
                f.gas += pays ? 2300 : 0;
                returned.length = 0;
                Numbers.clear(s, (f.height - 1) * LIMBS);
                return;
            }
            f.gas -= given;
            open(f, op, b, d, pays ? given + 2300 : given);
        }

        /** Begins the MESSAGE of a step whose b stands at b and whose DATA and room stand from d on. */
        private void open(Frame f, int op, int b, int d, long gas) {
            int[] s = f.stack;
            Frame to = frames[depth + 1];
            boolean isHere = op == CALLCODE || op == DELEGATECALL;
            Numbers.copy(op == DELEGATECALL ? f.sender : f.address, 0, to.sender, 0);
            Numbers.copyAddress(isHere ? f.address : s, isHere ? 0 : b, to.address, 0);
            setValue(f, to, op, b - LIMBS);
            to.isStatic = f.isStatic || op == STATICCALL;
            to.gas = gas;
            to.memoryFrom = f.memoryFrom + f.memorySize;
            to.dataLength = (int) Numbers.small(s, d - LIMBS);
            to.dataFrom = inMemory(f, Numbers.small(s, d), to.dataLength);
            to.roomLength = (int) Numbers.small(s, d - 3 * LIMBS);
            to.roomFrom = inMemory(f, Numbers.small(s, d - 2 * LIMBS), to.roomLength);
            depth++;
            mark(to);
            if (op == CALL) {
                moveValue(to, f.self);
            }
            enter(to, s, b);
        }

        private static void setValue(Frame f, Frame to, int op, int c) {
            if (op == DELEGATECALL) {
                Numbers.copy(f.value, 0, to.value, 0);
            } else if (op == STATICCALL) {
                Numbers.clear(to.value, 0);
            } else {
                Numbers.copy(f.stack, c, to.value, 0);
            }
        }

        /** Remembers how all is before the MESSAGE. */
        private void mark(Frame f) {
            f.marks[0] = refund;
            f.marks[1] = world.changes;
            f.marks[2] = world.touchedAddresses.count;
            f.marks[3] = world.touchedPlaces.count;
            f.marks[4] = world.destroyedCount;
            f.marks[5] = logs.count;
        }

        private void takeBack(Frame f) {
            refund = f.marks[0];
            world.takeBack(f.marks[1]);
            world.touchedAddresses.count = f.marks[2];
            world.touchedPlaces.count = f.marks[3];
            world.destroyedCount = f.marks[4];
            logs.count = f.marks[5];
        }

        private void moveValue(Frame f, int payer) {
            if (Numbers.isZero(f.value, 0)) {
                return;
            }
            int to = world.openAccount(f.address, 0);
            if (to < 0) {
                limitPassed = true;
            } else if (payer >= 0 && payer != to) {
                world.move(payer, to, f.value, 0);
            }
        }

        /** Lets the MESSAGE do the CODE of an ADDRESS. */
        private void enter(Frame f, int[] s, int o) {
            f.self = world.addresses.find(f.address, 0);
            f.begin(world.programOf(world.addresses.find(s, o)));
            returned.length = 0;
        }

        private void close(Frame f) {
            if (outcome != SUCCEEDED) {
                takeBack(f);
            }
            if (outcome == FAILED) {
                f.gas = 0;
            }
            depth--;
            if (depth >= 0) {
                Frame caller = frames[depth];
                caller.gas += f.gas;
                answer(caller.stack, (caller.height - 1) * LIMBS, outcome == SUCCEEDED);
                int n = Math.min(f.roomLength, returned.length);
                if (n > 0) {
                    System.arraycopy(returned.cells, 0, memory, f.roomFrom, n);
                }
            }
        }

        private void finish(int how) {
            outcome = how;
            returned.length = 0;
        }

        private boolean pay(Frame f, long cost) {
            if (f.gas < cost) {
                finish(FAILED);
                return false;
            }
            f.gas -= cost;
            return true;
        }

        private long accessCost(int[] s, int o) {
            return world.isTouched(s, o) ? 100 : 2600;
        }

        /** Makes MEMORY as long as is needed, if the gas is there for it. */
        private boolean reach(Frame f, long from, long n) {
            if (n == 0 || from + n <= f.memorySize) {
                return true;
            }
            long words = (from + n + 31) / 32;
            long cost = from + n > LOW + 1 ? HUGE : memoryCost(words) - memoryCost(f.memorySize / 32);
            if (!pay(f, cost)) {
                return false;
            }
            int end = f.memoryFrom + (int) words * 32;
            if (end > memory.length) {
                memory = Arrays.copyOf(memory, Math.max(end, Math.min(4 * memory.length, MOST_MEMORIES)));
            }
            Arrays.fill(memory, f.memoryFrom + f.memorySize, end, (byte) 0);
            f.memorySize = end - f.memoryFrom;
            return true;
        }

        private static long memoryCost(long words) {
            return 3 * words + words * words / 512;
        }

        /** Where bytes that were reached stand; of length 0 they may begin anywhere, so nothing is told. */
        private static int inMemory(Frame f, long from, long n) {
            return n == 0 ? f.memoryFrom : f.memoryFrom + (int) from;
        }

        /** Where DATA of the innermost MESSAGE stands: its caller's MEMORY does not change meanwhile. */
        private byte[] dataSource() {
            return depth == 0 ? tape.cells : memory;
        }

        private void loadData(Frame f, int a) {
            long from = Math.min(Numbers.small(f.stack, a), f.dataLength);
            Numbers.read(dataSource(), f.dataFrom + (int) from, f.dataFrom + f.dataLength, 32, f.stack, a);
        }

        private void copyReturned(Frame f, int a) {
            long from = Numbers.small(f.stack, a - LIMBS);
            long n = Numbers.small(f.stack, a - 2 * LIMBS);
            if (from + n > returned.length) {
                finish(FAILED);
            } else {
                copyToMemory(f, a, returned.cells, 0, returned.length);
            }
        }

        /** Brings bytes of a source to MEMORY, 0 for those behind it: to, from and how many stand from a on. */
        private void copyToMemory(Frame f, int a, byte[] source, int start, int length) {
            int[] s = f.stack;
            long to = Numbers.small(s, a);
            long from = Math.min(Numbers.small(s, a - LIMBS), length);
            long n = Numbers.small(s, a - 2 * LIMBS);
            if (!pay(f, 3 * ((n + 31) / 32)) || !reach(f, to, n) || n == 0) {
                return;
            }
            int at = inMemory(f, to, n);
            int have = (int) Math.min(n, length - from);
            System.arraycopy(source, start + (int) from, memory, at, have);
            Arrays.fill(memory, at + have, at + (int) n, (byte) 0);
        }
    }
}
