import java.util.NoSuchElementException;

/** What each call throws, in which order, and that a call that throws changes nothing (promises 1 to 16). */
public final class ThrowEdgesTest {
    private static final Class<?> RANGE = IllegalArgumentException.class;
    private static final Class<?> LIMIT = IndexOutOfBoundsException.class;
    private static final Class<?> POOR = UnsupportedOperationException.class;
    private static final Class<?> NONE = NoSuchElementException.class;
    private static final long[] BELOW = {-1, -2, Long.MIN_VALUE, Long.MIN_VALUE + 1, -1L << 32};
    private static final int[] NO_PARTS = {-1, 4, 5, Integer.MIN_VALUE, Integer.MAX_VALUE};
    private static final int[] NO_WHATS = {-1, 7, 8, Integer.MIN_VALUE, Integer.MAX_VALUE};

    private final Check check;

    private ThrowEdgesTest(Check check) {
        this.check = check;
    }

    public static void main(String[] args) {
        Check check = new Check();
        ThrowEdgesTest test = new ThrowEdgesTest(check);
        test.newObject();
        test.feeding();
        test.ending();
        test.code();
        test.balances();
        test.stores();
        test.environments();
        test.runs();
        test.runsInOrder();
        test.telling();
        test.logs();
        test.words();
        test.asking();
        check.finish("ThrowEdgesTest");
    }

    /** One with a RUN behind it that gave 5 bytes and two LOGS, and with 7 bytes on the TAPE. */
    private static ContractMachine machine() {
        ContractMachine x = new ContractMachine();
        x.balance(1, 0, 10);
        x.balance(2, 3, 4);
        x.store(2, 0, 5, 6);
        for (int k = 0; k <= 6; k++) {
            x.environment(k, 40 + k);
        }
        Check.code(x, 2, Code.ALL + "600052" + Code.step(0xA0, 0, 3) + Code.step(0xA2, 0, 0, 8, 9)
            + Code.step(0x55, 1, 7) + Code.step(0x31, 9) + "60056000F3");
        Check.run(x, 1, 2, 1, 100000);
        Check.tape(x, "01020304050607");
        return x;
    }

    /** The call throws, and all is as it was. */
    private void refused(String what, ContractMachine x, Class<?> due, Check.Deed deed) {
        Snapshot before = new Snapshot(x, 0, 1, 2, 9, Long.MAX_VALUE);
        check.thrown(what, due, deed);
        before.look(check, what);
    }

    private void newObject() {
        ContractMachine x = new ContractMachine();
        Snapshot empty = new Snapshot(x, 0, 1, 2, Long.MAX_VALUE);
        check.thrown("word", NONE, () -> x.word(0));
        check.thrown("log", NONE, () -> x.log(0, 0));
        check.thrown("log", NONE, () -> x.log(0, 6));
        check.thrown("logWord", NONE, () -> x.logWord(0, 0));
        check.thrown("end", RANGE, () -> x.end(1));
        check.thrown("run", POOR, () -> x.run(0, 0, 1, 0));
        for (int k = 0; k <= 6; k++) {
            check.same("told(" + k + ")", x.told(k), 0);
        }
        empty.look(check, "a new object");
        check.same("end(0)", x.end(0), 0);
        check.same("code of nothing", x.code(5), 0);
        check.same("run without gas", x.run(0, 0, 0, 0), 1);
    }

    private void feeding() {
        ContractMachine x = new ContractMachine();
        int[] odd = {Integer.MIN_VALUE, -1, 0, 1, Integer.MAX_VALUE};
        check.same("feed", x.feed(odd[0], odd[1], odd[2], odd[3], odd[4]), 20);
        Check.code(x, 2, "366000600037 366000F3");
        check.same("feed", x.feed(odd[0], odd[1], odd[2], odd[3], odd[4]), 20);
        check.same("run", x.run(1, 2, 0, 1000), 1);
        check.same("the highest of each first", x.word(0), 0x80000000FFFFFFFFL);
        check.same("the highest of each first", x.word(8), 1);
        check.same("the highest of each first", x.word(12), 0x000000017FFFFFFFL);
        check.same("the last", x.word(16), 0x7FFFFFFF00000000L);
        for (int k = 1; k <= 1228; k++) {
            x.feed(k, 0, 0, 0, 0);
        }
        for (int length : new int[] {24560, 24559, 24558, 24557}) {
            x.end(length);
            refused("feed behind " + length, x, LIMIT, () -> x.feed(1, 2, 3, 4, 5));
            check.same("its length stays", x.end(length), length);
        }
        x.end(24556);
        check.same("feed behind 24556", x.feed(1, 2, 3, 4, 5), 24576);
        refused("feed to a full one", x, LIMIT, () -> x.feed(1, 2, 3, 4, 5));
        check.same("its length stays", x.end(24576), 24576);
        check.thrown("end behind it", RANGE, () -> x.end(24577));
    }

    private void ending() {
        ContractMachine x = machine();
        for (int n : new int[] {-1, 8, 9, 20, Integer.MIN_VALUE, Integer.MAX_VALUE}) {
            refused("end(" + n + ") of 7", x, RANGE, () -> x.end(n));
        }
        Snapshot before = new Snapshot(x, 2);
        check.same("end(7) of 7", x.end(7), 7);
        before.look(check, "end(7) of 7");
        check.same("end(6)", x.end(6), 6);
        refused("end(7) of 6", x, RANGE, () -> x.end(7));
        check.same("end(0)", x.end(0), 0);
        refused("end(1) of none", x, RANGE, () -> x.end(1));
        refused("end(-1) of none", x, RANGE, () -> x.end(-1));
        check.same("end(0) of none", x.end(0), 0);
        // what is cut off does not come back
        x.feed(-1, -1, -1, -1, -1);
        x.end(2);
        check.same("feed", x.feed(0, 0, 0, 0, 0), 22);
        ContractMachine y = new ContractMachine();
        Check.tape(y, "FFFF" + "00".repeat(20));
        check.same("the same bytes", x.keccak(0), y.keccak(0));
    }

    private void code() {
        for (int n : new int[] {7, 2048, 2049}) {
            ContractMachine x = machine();
            Check.tape(x, new byte[n]);
            for (long address : BELOW) {
                refused("code(" + address + ") of " + n, x, RANGE, () -> x.code(address));
            }
            check.same("the TAPE stays", x.end(n), n);
            if (n > 2048) {
                refused("code of " + n, x, LIMIT, () -> x.code(2));
                refused("code of " + n, x, LIMIT, () -> x.code(77));
                check.same("the TAPE stays", x.end(n), n);
            } else {
                check.same("code of " + n, x.code(Long.MAX_VALUE), n);
                check.same("codeSize", x.codeSize(Long.MAX_VALUE), n);
                check.thrown("the TAPE is empty", RANGE, () -> x.end(1));
                check.same("code of nothing", x.code(Long.MAX_VALUE), 0);
                check.same("codeSize", x.codeSize(Long.MAX_VALUE), 0);
            }
        }
        ContractMachine zero = machine();
        check.same("code of address 0", zero.code(0), 7);
        check.same("codeSize of address 0", zero.codeSize(0), 7);
        // what was refused takes no ACCOUNT
        ContractMachine y = machine();
        Check.tape(y, new byte[2049]);
        for (int k = 0; k < 70; k++) {
            long address = 100 + k;
            check.thrown("code of 2049", LIMIT, () -> y.code(address));
        }
        for (int k = 0; k < 62; k++) {
            y.balance(500 + k, 0, 1);
        }
        refused("the 65th", y, LIMIT, () -> y.balance(700, 0, 1));
        for (long address : BELOW) {
            refused("a wrong address comes first", y, RANGE, () -> y.code(address));
        }
    }

    private void balances() {
        ContractMachine x = machine();
        for (long address : BELOW) {
            refused("balance(" + address + ")", x, RANGE, () -> x.balance(address, 1, 1));
            refused("balance(" + address + ") of 0", x, RANGE, () -> x.balance(address, 0, 0));
        }
        long[] some = {0, 1, -1, Long.MIN_VALUE, Long.MAX_VALUE};
        for (long high : some) {
            for (long low : some) {
                for (long address : new long[] {0, Long.MAX_VALUE}) {
                    x.balance(address, high, low);
                    check.same("part 0", x.balanceOf(address, 0), 0);
                    check.same("part 1", x.balanceOf(address, 1), 0);
                    check.same("part 2", x.balanceOf(address, 2), high);
                    check.same("part 3", x.balanceOf(address, 3), low);
                }
            }
        }
    }

    private void stores() {
        ContractMachine x = machine();
        for (long address : BELOW) {
            refused("store(" + address + ")", x, RANGE, () -> x.store(address, 0, 1, 1));
            refused("store(" + address + ") of 0", x, RANGE, () -> x.store(address, 0, 0, 0));
        }
        long[] some = {0, 1, -1, Long.MIN_VALUE, Long.MAX_VALUE};
        for (long p : some) {
            for (long v : some) {
                x.store(Long.MAX_VALUE, p, v, ~v);
                check.same("part 0", x.stored(Long.MAX_VALUE, 0, 0, 0, p, 0), 0);
                check.same("part 1", x.stored(Long.MAX_VALUE, 0, 0, 0, p, 1), 0);
                check.same("part 2", x.stored(Long.MAX_VALUE, 0, 0, 0, p, 2), v);
                check.same("part 3", x.stored(Long.MAX_VALUE, 0, 0, 0, p, 3), ~v);
                check.same("place p + 2^64", x.stored(Long.MAX_VALUE, 0, 0, 1, p, 3), 0);
                check.same("place p + 2^128", x.stored(Long.MAX_VALUE, 0, 1, 0, p, 3), 0);
                check.same("place p + 2^192", x.stored(Long.MAX_VALUE, 1, 0, 0, p, 3), 0);
                check.same("another's", x.stored(0, 0, 0, 0, p, 3), 0);
            }
        }
    }

    private void environments() {
        ContractMachine x = machine();
        for (int what : NO_WHATS) {
            refused("environment(" + what + ")", x, RANGE, () -> x.environment(what, 99));
        }
        String[] steps = {"3A", "41", "42", "43", "44", "45", "46"};
        StringBuilder all = new StringBuilder();
        for (int k = 0; k <= 6; k++) {
            all.append(steps[k]).append(Code.push(32 * k)).append("52");
        }
        Check.code(x, 2, all + "60E06000F3");
        Check.run(x, 1, 2, 0, 9000);
        for (int k = 0; k <= 6; k++) {
            check.same("environment " + k + " is as it was", x.word(32 * k + 24), 40 + k);
        }
        long[] some = {0, 1, -1, Long.MIN_VALUE, Long.MAX_VALUE};
        for (int k = 0; k <= 6; k++) {
            for (long v : some) {
                x.environment(k, v);
                Check.run(x, 1, 2, 0, 9000);
                for (int j = 0; j <= 6; j++) {
                    check.same("environment " + j, x.word(32 * j + 24), j == k ? v : j < k ? Long.MAX_VALUE : 40 + j);
                    check.same("nothing above", x.word(32 * j) | x.word(32 * j + 8) | x.word(32 * j + 16), 0);
                }
            }
        }
    }

    private void runs() {
        ContractMachine x = machine();
        for (long address : BELOW) {
            refused("from " + address, x, RANGE, () -> x.run(address, 2, 0, 1000));
            refused("to " + address, x, RANGE, () -> x.run(1, address, 0, 1000));
        }
        for (int gas : new int[] {-1, 200001, Integer.MIN_VALUE, Integer.MAX_VALUE}) {
            refused("gas " + gas, x, RANGE, () -> x.run(1, 2, 0, gas));
        }
        for (long value : new long[] {10, 11, -1, Long.MIN_VALUE, Long.MAX_VALUE}) {
            refused("value " + value + " of 9", x, POOR, () -> x.run(1, 2, value, 1000));
        }
        check.same("the TAPE stays", x.end(7), 7);
        check.same("value 9 of 9 without gas", x.run(1, 2, 9, 0), 0);
        check.thrown("the TAPE is empty", RANGE, () -> x.end(1));
        check.same("FAILED, so it stays", x.balanceOf(1, 3), 9);
        check.same("gas 0", x.run(1, 9, 0, 0), 1);
        check.same("gas 0 is left", x.told(0), 0);
        check.same("gas 200000", x.run(Long.MAX_VALUE, Long.MAX_VALUE, 0, 200000), 1);
        check.same("gas 200000 is left", x.told(0), 200000);
        check.same("address 0", x.run(0, 0, 0, 1), 1);
        check.same("one ADDRESS", x.told(5), 1);
        // the TAPE is empty behind each RUN that does not throw
        for (String end : new String[] {"00", "60006000FD", "FE"}) {
            Check.code(x, 2, end);
            x.feed(1, 2, 3, 4, 5);
            x.run(1, 2, 0, 100);
            check.thrown("the TAPE is empty behind " + end, RANGE, () -> x.end(1));
        }
    }

    /** A number out of range, then a SENDER that has less than value, then a LIMIT. */
    private void runsInOrder() {
        ContractMachine x = machine();
        for (int k = 0; k < 62; k++) {
            x.balance(500 + k, 0, 1);
        }
        refused("gas before value and LIMIT", x, RANGE, () -> x.run(1, 77, 10, -1));
        refused("gas before value and LIMIT", x, RANGE, () -> x.run(1, 77, 10, 200001));
        refused("gas before LIMIT", x, RANGE, () -> x.run(1, 77, 9, 200001));
        refused("from before value", x, RANGE, () -> x.run(-1, 77, 10, 0));
        refused("to before value", x, RANGE, () -> x.run(1, -1, 10, 0));
        refused("value before LIMIT", x, POOR, () -> x.run(1, 77, 10, 0));
        refused("value before LIMIT", x, POOR, () -> x.run(1, 77, -1, 0));
        refused("LIMIT", x, LIMIT, () -> x.run(1, 77, 9, 0));
        refused("LIMIT", x, LIMIT, () -> x.run(1, 77, 1, 200000));
        check.same("no value", x.run(1, 77, 0, 0), 1);
    }

    private void telling() {
        ContractMachine x = machine();
        for (int what : NO_WHATS) {
            refused("told(" + what + ")", x, RANGE, () -> x.told(what));
        }
        int gas = 3 + 3 + 3 + 3 + 6 + 375 + 24 + 12 + 1125 + 6 + 22100 + 3 + 2600 + 6;
        long[] due = {100000 - gas, 0, 2, 19, 5, 3, 1};
        for (int k = 0; k <= 6; k++) {
            check.same("told(" + k + ")", x.told(k), due[k]);
        }
        // of the latest RUN alone
        Check.run(x, 1, 9, 0, 12);
        long[] next = {12, 0, 0, 1, 0, 2, 0};
        for (int k = 0; k <= 6; k++) {
            check.same("told(" + k + ") of the next", x.told(k), next[k]);
        }
    }

    private void logs() {
        ContractMachine x = machine();
        for (int what : NO_WHATS) {
            for (int i : new int[] {0, 1, 2, -1, Integer.MIN_VALUE, Integer.MAX_VALUE}) {
                refused("log(" + i + ", " + what + ")", x, RANGE, () -> x.log(i, what));
            }
        }
        for (int what = 0; what <= 6; what++) {
            int which = what;
            for (int i : new int[] {2, 3, -1, 199, 200, Integer.MIN_VALUE, Integer.MAX_VALUE}) {
                refused("log(" + i + ", " + what + ")", x, NONE, () -> x.log(i, which));
            }
            if (what >= 3) {
                refused("log(0, " + what + ")", x, NONE, () -> x.log(0, which));
            }
            if (what >= 5) {
                refused("log(1, " + what + ")", x, NONE, () -> x.log(1, which));
            }
        }
        check.same("log(1, 3)", x.log(1, 3), 8);
        check.same("log(1, 4)", x.log(1, 4), 9);
        for (int j : new int[] {3, 4, 8, -1, 4095, 4096, Integer.MIN_VALUE, Integer.MAX_VALUE}) {
            refused("logWord(0, " + j + ")", x, NONE, () -> x.logWord(0, j));
        }
        for (int j : new int[] {0, 1, -1}) {
            refused("logWord(1, " + j + ") of no bytes", x, NONE, () -> x.logWord(1, j));
        }
        for (int i : new int[] {2, -1, 200, Integer.MIN_VALUE, Integer.MAX_VALUE}) {
            refused("logWord(" + i + ", 0)", x, NONE, () -> x.logWord(i, 0));
        }
        check.same("logWord(0, 2)", x.logWord(0, 2), 0xFF00000000000000L);
        check.same("logWord(0, 0)", x.logWord(0, 0), 0xFFFFFF0000000000L);
        // of the latest RUN alone, also when those before had more
        for (int many = 3; many >= 0; many--) {
            for (int k = 0; k < 3; k++) {
                Check.code(x, 2, Code.step(0xA1, 0, 9, 4).repeat(many));
                Check.run(x, 1, 2, 0, 9000);
                for (int i = 0; i < 4; i++) {
                    int which = i;
                    if (i < many) {
                        check.same("log " + i + " of " + many, x.log(i, 2) + x.log(i, 3) + x.logWord(i, 8), 13);
                    } else {
                        check.thrown("log " + i + " of " + many, NONE, () -> x.log(which, 3));
                        check.thrown("logWord " + i + " of " + many, NONE, () -> x.logWord(which, 0));
                    }
                }
            }
        }
    }

    private void words() {
        ContractMachine x = machine();
        for (int i : new int[] {5, 6, 8, 32, -1, -8, Integer.MIN_VALUE, Integer.MAX_VALUE, Integer.MAX_VALUE - 6}) {
            refused("word(" + i + ")", x, NONE, () -> x.word(i));
        }
        check.same("word(4)", x.word(4), 0xFF00000000000000L);
        check.same("word(0)", x.word(0), 0xFFFFFFFFFF000000L);
        for (int n : new int[] {1, 7, 8, 9}) {
            Check.code(x, 2, Code.ALL + "600052" + Code.step(0xF3, 0, n));
            Check.run(x, 1, 2, 0, 1000);
            for (int i = 0; i < n; i++) {
                int have = Math.min(8, n - i);
                check.same("word(" + i + ") of " + n, x.word(i), have == 8 ? -1 : -1L << 64 - 8 * have);
            }
            check.thrown("word(" + n + ") of " + n, NONE, () -> x.word(n));
        }
    }

    private void asking() {
        ContractMachine x = machine();
        for (int part : NO_PARTS) {
            refused("balanceOf(2, " + part + ")", x, RANGE, () -> x.balanceOf(2, part));
            refused("stored part " + part, x, RANGE, () -> x.stored(2, 0, 0, 0, 0, part));
            refused("keccak(" + part + ")", x, RANGE, () -> x.keccak(part));
            refused("balanceOf(77, " + part + ")", x, RANGE, () -> x.balanceOf(77, part));
            refused("stored part " + part, x, RANGE, () -> x.stored(77, -1, -1, -1, -1, part));
        }
        for (long address : BELOW) {
            for (int part : new int[] {0, 3, 4, -1}) {
                refused("balanceOf(" + address + ")", x, RANGE, () -> x.balanceOf(address, part));
                refused("stored(" + address + ")", x, RANGE, () -> x.stored(address, 0, 0, 0, 0, part));
            }
            refused("codeSize(" + address + ")", x, RANGE, () -> x.codeSize(address));
        }
        check.same("balanceOf(2, 2)", x.balanceOf(2, 2), 3);
        check.same("balanceOf(2, 3)", x.balanceOf(2, 3), 5);
        check.same("stored", x.stored(2, 0, 0, 0, 0, 2), 5);
        check.same("stored", x.stored(2, 0, 0, 0, 0, 3), 6);
        check.same("stored", x.stored(2, 0, 0, 0, 1, 3), 7);
        for (long p : new long[] {1, -1, Long.MIN_VALUE}) {
            check.same("stored at another place", x.stored(2, p, 0, 0, 0, 3) + x.stored(2, 0, p, 0, 0, 3)
                + x.stored(2, 0, 0, p, 0, 3), 0);
        }
        check.same("of one that there is not", x.balanceOf(Long.MAX_VALUE, 0) + x.codeSize(Long.MAX_VALUE)
            + x.stored(Long.MAX_VALUE, -1, -1, -1, -1, 3), 0);
    }
}
