import java.math.BigInteger;

/** The edges of CALL, CALLCODE, DELEGATECALL, STATICCALL (promises 8 and 9), on both sides. */
public final class CallEdgesTest {
    private static final int[] CALLS = {0xF1, 0xF2, 0xF4, 0xFA};

    private final Check check;

    private CallEdgesTest(Check check) {
        this.check = check;
    }

    public static void main(String[] args) {
        Check check = new Check();
        CallEdgesTest test = new CallEdgesTest(check);
        test.lastUnit();
        test.allButA64th();
        test.asManyAsAsked();
        test.besides();
        test.lessThanTheValue();
        test.depth24();
        test.depth24GivesBack();
        test.room();
        test.dataOfLength();
        test.returned();
        test.whoIsWho();
        test.nested();
        test.valueOfARun();
        check.finish("CallEdgesTest");
    }

    private static boolean isValued(int op) {
        return op == 0xF1 || op == 0xF2;
    }

    private static int pushed(int op) {
        return isValued(op) ? 21 : 18;
    }

    private static int run(ContractMachine x, String hex, int gas) {
        Check.code(x, 2, hex);
        return Check.run(x, 1, 2, 0, gas);
    }

    /** What a call costs of itself: with just that gas the MESSAGE is made, with one less the step FAILS. */
    private void lastUnit() {
        for (int op : CALLS) {
            lastUnit(op, 3, 0, 2600, 0);
            lastUnit(op, 1, 0, 100, 0);
            lastUnit(op, 9, 0, 2600, 0);
        }
        lastUnit(0xF1, 3, 1, 2600 + 9000, 2300);
        lastUnit(0xF1, 9, 1, 2600 + 9000 + 25000, 2300);
        lastUnit(0xF1, 1, 1, 100 + 9000 + 25000, 2300);
        lastUnit(0xF1, 2, 1, 100 + 9000, 2300);
        lastUnit(0xF2, 3, 1, 2600 + 9000, 2300);
        lastUnit(0xF2, 9, 1, 2600 + 9000, 2300);
        // the BALANCE is 10
        lastUnit(0xF1, 3, 11, 2600 + 9000, 2300);
        lastUnit(0xF1, 9, 11, 2600 + 9000 + 25000, 2300);
        lastUnit(0xF2, 9, 11, 2600 + 9000, 2300);
    }

    private void lastUnit(int op, int to, int value, int cost, int left) {
        String what = String.format("%02X to %d with %d", op, to, value);
        for (int less = 0; less < 2; less++) {
            ContractMachine x = new ContractMachine();
            x.balance(2, 0, 10);
            Check.code(x, 3, "00");
            String code = Code.call(op, 0, to, value);
            check.same(what + ", " + less + " less", run(x, code, pushed(op) + cost - less), 1 - less);
            if (to != 2) {
                check.same(what + " leaves", x.told(0), less == 0 ? left : 0);
            }
        }
    }

    /** What is left less 1/64 of it, rounded down, if that is less than a. */
    private void allButA64th() {
        int[] left = {0, 1, 62, 63, 64, 65, 127, 128, 129, 191, 192, 6399, 6400, 6401, 64000};
        for (int op : CALLS) {
            for (int some : left) {
                ContractMachine x = new ContractMachine();
                Check.code(x, 3, "FE");
                run(x, Code.call(op, 1000000, 3, 0), pushed(op) + 2600 + some);
                check.same(String.format("%02X: 1/64 of %d stays", op, some), x.told(0), some / 64);
            }
        }
    }

    /** a, if that is less: all of it is gone when the MESSAGE FAILS. */
    private void asManyAsAsked() {
        // 6400 are left, of which 6300 may go
        long[] asked = {0, 1, 6299, 6300, 6301, 6400, 6401, 1L << 31, 1L << 32, (1L << 32) + 1, 1L << 40, -1};
        for (int op : CALLS) {
            for (long a : asked) {
                ContractMachine x = new ContractMachine();
                Check.code(x, 3, "FE");
                run(x, Code.call(op, a, 3, 0), pushed(op) + 2600 + 6400);
                long gone = a >= 0 && a <= 6300 ? a : 6300;
                check.same(String.format("%02X: of %d asked", op, a), x.told(0), 6400 - gone);
            }
            ContractMachine x = new ContractMachine();
            Check.code(x, 3, "FE");
            String far = Code.push32(BigInteger.ONE.shiftLeft(255));
            run(x, "6000600060006000" + (isValued(op) ? "6000" : "") + "6003" + far + Code.bare(op),
                pushed(op) + 2600 + 6400);
            check.same(String.format("%02X: of 2^255 asked", op), x.told(0), 100);
        }
    }

    /** With a value that is not 0 2300 besides: what the MESSAGE begins with. */
    private void besides() {
        String tell = "5A" + Code.TELL;
        for (int op : new int[] {0xF1, 0xF2}) {
            for (int value = 0; value <= 1; value++) {
                for (int a : new int[] {17, 18, 100, 1000}) {
                    ContractMachine x = new ContractMachine();
                    x.balance(2, 0, 10);
                    Check.code(x, 3, tell);
                    run(x, Code.call(op, a, 3, value, 0, 0, 0, 32) + "60206000F3", 50000);
                    int begins = a + 2300 * value;
                    check.same("begins with", x.word(24), begins - 2);
                    check.same("gas", 50000 - x.told(0), 21 + 3 + 2600 + 9000 * value - 2300 * value + 17 + 6);
                }
                ContractMachine x = new ContractMachine();
                x.balance(2, 0, 10);
                Check.code(x, 3, tell);
                run(x, Code.call(op, 16, 3, value, 0, 0, 0, 32) + "60206000F3", 50000);
                check.same("16 is too little without", x.word(24), value == 0 ? 0 : 2314);
            }
        }
        // all but a 64th, and 2300 besides
        ContractMachine x = new ContractMachine();
        x.balance(2, 0, 10);
        Check.code(x, 3, tell);
        run(x, Code.call(0xF1, 1000000, 3, 1, 0, 0, 0, 32) + "60206000F3", 21 + 3 + 2600 + 9000 + 6400);
        check.same("all but a 64th and 2300", x.word(24), 6300 + 2300 - 2);
    }

    /** The BALANCE is less than the value: 0, this gas comes back with the 2300, RETURNED is none. */
    private void lessThanTheValue() {
        BigInteger two = BigInteger.ONE.shiftLeft(64);
        for (int op : new int[] {0xF1, 0xF2}) {
            value(op, 0, 10, BigInteger.valueOf(9), true);
            value(op, 0, 10, BigInteger.valueOf(10), true);
            value(op, 0, 10, BigInteger.valueOf(11), false);
            value(op, 0, 0, BigInteger.ONE, false);
            value(op, 0, -1, two.subtract(BigInteger.ONE), true);
            value(op, 0, -1, two, false);
            value(op, 1, 0, two, true);
            value(op, 1, 0, two.add(BigInteger.ONE), false);
            value(op, -1, -1, two.pow(2).subtract(BigInteger.ONE), true);
            value(op, -1, -1, two.pow(2), false);
            value(op, -1, -1, two.pow(3), false);
            value(op, -1, -1, BigInteger.ONE.shiftLeft(255), false);
        }
    }

    private void value(int op, long high, long low, BigInteger value, boolean goes) {
        ContractMachine x = new ContractMachine();
        x.balance(2, high, low);
        x.balance(3, 0, 0);
        Check.code(x, 3, "60016000F3");
        String what = String.format("%02X of %d %d with %x ", op, high, low, value);
        String first = Code.call(0xF1, 9000, 3, 0) + "50";
        String call = "6001 6000 6000 6000" + Code.push32(value) + "6003 61FFFF" + Code.bare(op);
        check.same(what, run(x, first + "60AA600053" + call + "602052 3D604052 5A606052 60806000F3", 150000), 1);
        check.same(what + "gives", x.word(56), goes ? 1 : 0);
        check.same(what + "RETURNED", x.word(88), goes ? 1 : 0);
        check.same(what + "room", x.word(0), goes ? 0 : 0xAA00000000000000L);
        int child = goes ? 9 : 0;
        int before = 21 + 2600 + 9 + 2 + 6 + 3 + 3;
        check.same(what + "gas behind it", x.word(120), 150000 - before - 21 - 9100 + 2300 - child - 6 - 3 - 8 - 3 - 2);
        boolean moves = goes && op == 0xF1;
        check.same(what + "low", x.balanceOf(2, 3), moves ? low - value.longValue() : low);
        check.same(what + "high", x.balanceOf(2, 2), moves ? high - value.shiftRight(64).longValue() : high);
        check.same(what + "came", x.balanceOf(3, 3), moves ? value.longValue() : 0);
        check.same(what + "came", x.balanceOf(3, 2), moves ? value.shiftRight(64).longValue() : 0);
        check.same(what + "TOUCHED", x.told(5), 3);
    }

    /** A MESSAGE of DEPTH 24 does its CODE, and what it calls gives 0. */
    private void depth24() {
        for (int op : CALLS) {
            // counts the MESSAGES that were: each gives what the one within it gave and 1 more
            String code = "6020 6000 6000 6000" + (isValued(op) ? "6000" : "") + "6002 5A" + Code.bare(op)
                + "50 600051 6001 01" + Code.TELL;
            ContractMachine x = new ContractMachine();
            check.same("run", run(x, code, 200000), 1);
            check.same(String.format("MESSAGES by %02X", op), x.word(24), 25);
            check.same(String.format("steps by %02X", op), x.told(3), 25 * (isValued(op) ? 18 : 17));
        }
        for (int depth = 22; depth <= 25; depth++) {
            for (int op : CALLS) {
                String code = deep(Code.call(op, 9, 3, 0) + "600052", 32);
                ContractMachine x = new ContractMachine();
                Check.code(x, 3, "00");
                Check.code(x, 2, code);
                Check.tape(x, String.format("%064X", depth));
                check.same("run", x.run(1, 2, 0, 200000), 1);
                // DEPTH 25 is never reached: the call to it gave 0, and what comes back is MEMORY as it was
                check.same(String.format("%02X from DEPTH %d", op, depth), x.word(24), depth < 24 ? 1 : 0);
            }
        }
    }

    /** 2 calls itself as often as DATA tells, then does this; so many bytes of MEMORY are given back through all. */
    private static String deep(String last, int bytes) {
        String give = Code.step(0xF3, 0, bytes);
        int down = Check.bytes("600035 80 600057 50" + last + give).length;
        return "600035 80" + Code.push(down) + "57 50" + last + give
            + "5B 6001 9003 600052" + Code.push(bytes) + "6000 6020 6000 6000 6002 5A F1" + give;
    }

    /** Of a call from DEPTH 24: 0, its gas comes back with the 2300, RETURNED is none, the value stays. */
    private void depth24GivesBack() {
        for (int op : CALLS) {
            for (int value = 0; value <= (isValued(op) ? 1 : 0); value++) {
                String code = deep(Code.call(0xFA, 9, 4, 0) + "50 5A" + Code.call(op, 5000, 3, value)
                    + "602052 3D604052 5A 9003 606052", 128);
                for (int depth = 23; depth <= 24; depth++) {
                    ContractMachine x = new ContractMachine();
                    x.balance(2, 0, 10);
                    Check.code(x, 3, "60016000F3");
                    Check.code(x, 4, "60016000F3");
                    Check.code(x, 2, code);
                    Check.tape(x, String.format("%064X", depth));
                    String what = String.format("%02X with %d from DEPTH %d: ", op, value, depth);
                    check.same(what + "run", x.run(1, 2, 0, 200000), 1);
                    check.same(what + "gives", x.word(56), depth == 23 ? 1 : 0);
                    check.same(what + "RETURNED", x.word(88), depth == 23 ? 1 : 0);
                    int gas = pushed(op) + 2600 + 6700 * value + (depth == 23 ? 9 : 0);
                    // GAS, the call, PUSH1 MSTORE and two words of MEMORY, RETURNDATASIZE PUSH1 MSTORE and one, GAS
                    check.same(what + "gas", x.word(120), gas + 6 + 6 + 8 + 3 + 2);
                    boolean moves = depth == 23 && op == 0xF1 && value == 1;
                    check.same(what + "BALANCE", x.balanceOf(3, 3), moves ? 1 : 0);
                    check.same(what + "TOUCHED", x.told(5), 4);
                }
            }
        }
    }

    /** The first g bytes at most come to f; what there is room for beside them stays. */
    private void room() {
        for (int op : CALLS) {
            for (int n : new int[] {0, 1, 31, 32, 33}) {
                for (int g : new int[] {0, 1, 31, 32, 33, 40}) {
                    for (String end : new String[] {"F3", "FD"}) {
                        room(op, n, g, end);
                    }
                }
            }
        }
    }

    private void room(int op, int n, int g, String end) {
        ContractMachine x = new ContractMachine();
        String ones = "7F" + "11".repeat(32);
        Check.code(x, 3, ones + "600052" + ones + "602052" + Code.push(n) + "6000" + end);
        run(x, Code.ALL + "600052" + Code.ALL + "602052" + Code.call(op, 9000, 3, 0, 0, 0, 5, g)
            + "604052 3D606052 60806000F3", 50000);
        String what = String.format("%02X, %d bytes by %s, room for %d: ", op, n, end, g);
        check.same(what + "gives", x.word(88), end.equals("F3") ? 1 : 0);
        check.same(what + "RETURNED", x.word(120), n);
        int come = Math.min(n, g);
        for (int k = 0; k < 64; k++) {
            long due = k >= 5 && k < 5 + come ? 0x11 : 0xFF;
            check.same(what + "byte " + k, x.word(k) >>> 56, due);
        }
    }

    /** DATA is e bytes of MEMORY from d, as it was when the call was made; none of length 0. */
    private void dataOfLength() {
        for (int op : CALLS) {
            for (int e : new int[] {0, 1, 8, 31, 32, 33}) {
                ContractMachine x = new ContractMachine();
                Check.code(x, 3, "36600052 600035602052 60406000F3");
                run(x, "7F" + "11".repeat(32) + "602352" + Code.call(op, 9000, 3, 0, 0x23, e, 0, 64)
                    + "60406000F3", 50000);
                String what = String.format("%02X with %d bytes: ", op, e);
                check.same(what + "CALLDATASIZE", x.word(24), e);
                check.same(what + "the first", x.word(32) >>> 56, e == 0 ? 0 : 0x11);
                for (int k = 0; k < 32; k++) {
                    check.same(what + "byte " + k, x.word(32 + k) >>> 56, k < Math.min(e, 32) ? 0x11 : 0);
                }
            }
        }
        // room over DATA: it is written behind the MESSAGE alone
        ContractMachine x = new ContractMachine();
        Check.code(x, 3, "600035 80 01 600052 60206000F3");
        run(x, "6015600052" + Code.call(0xF1, 9000, 3, 0, 0, 32, 0, 32) + "60206000F3", 50000);
        check.same("twice DATA, at its own place", x.word(24), 42);
    }

    /** RETURNED is what the latest MESSAGE gave with RETURN, REVERT, else none. */
    private void returned() {
        String[] ends = {"60036000F3", "60036000FD", "00", "", "FE", "6001FF", "60006000F3"};
        int[] sizes = {3, 3, 0, 0, 0, 0, 0};
        for (int k = 0; k < ends.length; k++) {
            for (int op : CALLS) {
                ContractMachine x = new ContractMachine();
                Check.code(x, 3, "60056000F3");
                Check.code(x, 4, Code.call(0xFA, 9000, 3, 0) + "50" + ends[k]);
                run(x, "3D600052" + Code.call(0xFA, 9000, 3, 0) + "50 3D602052" + Code.call(op, 20000, 4, 0)
                    + "50 3D604052 60606000F3", 90000);
                check.same("none at first", x.word(24), 0);
                check.same("5 bytes", x.word(56), 5);
                check.same(String.format("%02X that ends by %s", op, ends[k]), x.word(88), sizes[k]);
            }
        }
        ContractMachine x = new ContractMachine();
        Check.code(x, 3, "60056000F3");
        Check.code(x, 4, "3D" + Code.TELL);
        run(x, Code.call(0xFA, 9000, 3, 0) + "50" + Code.call(0xFA, 9000, 4, 0, 0, 0, 0, 32) + "50 60206000F3", 90000);
        check.same("none at first in a new MESSAGE", x.word(24), 0);
        run(x, Code.call(0xFA, 9000, 3, 0) + "50" + Code.call(0xFA, 9000, 77, 0) + "50 3D" + Code.TELL, 90000);
        check.same("none of one without CODE", x.word(24), 0);
        run(x, Code.call(0xFA, 9000, 3, 0) + "50" + Code.step(0x31, 77) + "50 3D" + Code.TELL, 90000);
        check.same("another step leaves it", x.word(24), 5);
    }

    /** ADDRESS, CALLER, CALLVALUE, ORIGIN, SELFBALANCE, CODESIZE as 3 sees them. */
    private void whoIsWho() {
        String three = "30600052 33602052 34604052 32606052 47608052 3860A052 60C06000F3";
        long size = Check.bytes(three).length;
        long[][] due = {{3, 2, 4, 1, 4, size}, {2, 2, 4, 1, 25, size}, {2, 1, 5, 1, 25, size}, {3, 2, 0, 1, 0, size}};
        for (int k = 0; k < 4; k++) {
            ContractMachine x = new ContractMachine();
            x.balance(1, 0, 50);
            x.balance(2, 0, 20);
            Check.code(x, 3, three);
            Check.code(x, 2, Code.call(CALLS[k], 50000, 3, 4, 0, 0, 0, 0xC0) + "60C06000F3");
            x.end(0);
            check.same("run", x.run(1, 2, 5, 90000), 1);
            for (int j = 0; j < 6; j++) {
                check.same(String.format("%02X, number %d", CALLS[k], j), x.word(32 * j + 24), due[k][j]);
            }
        }
    }

    /** From 2 by one call to 3 and from there by another to 4: who 4 is, who called it, and with which value. */
    private void nested() {
        String four = "30600052 33602052 34604052 60606000F3";
        long[][][] due = {
            {{4, 3, 6}, {3, 3, 6}, {3, 2, 4}, {4, 3, 0}}, {{4, 2, 6}, {2, 2, 6}, {2, 2, 4}, {4, 2, 0}},
            {{4, 2, 6}, {2, 2, 6}, {2, 1, 5}, {4, 2, 0}}, {{0, 0, 0}, {3, 3, 6}, {3, 2, 0}, {4, 3, 0}}};
        for (int k = 0; k < 4; k++) {
            for (int j = 0; j < 4; j++) {
                ContractMachine x = new ContractMachine();
                x.balance(1, 0, 50);
                x.balance(2, 0, 20);
                x.balance(3, 0, 20);
                Check.code(x, 4, four);
                Check.code(x, 3, Code.call(CALLS[j], 50000, 4, 6, 0, 0, 0, 0x60) + "60606000F3");
                Check.code(x, 2, Code.call(CALLS[k], 90000, 3, 4, 0, 0, 0, 0x60) + "60606000F3");
                x.end(0);
                check.same("run", x.run(1, 2, 5, 190000), 1);
                for (int i = 0; i < 3; i++) {
                    check.same(String.format("%02X then %02X, number %d", CALLS[k], CALLS[j], i), x.word(32 * i + 24),
                        due[k][j][i]);
                }
            }
        }
    }

    /** The SENDER has less than value: thrown; just as much: it all goes. */
    private void valueOfARun() {
        ContractMachine x = new ContractMachine();
        x.balance(1, 0, 10);
        check.thrown("11 of 10", UnsupportedOperationException.class, () -> x.run(1, 2, 11, 0));
        check.thrown("2^63 of 10", UnsupportedOperationException.class, () -> x.run(1, 2, Long.MIN_VALUE, 0));
        check.thrown("2^64 - 1 of 10", UnsupportedOperationException.class, () -> x.run(1, 2, -1, 0));
        check.same("10 of 10", x.run(1, 2, 10, 0), 1);
        check.same("it went", x.balanceOf(1, 3), 0);
        check.same("it came", x.balanceOf(2, 3), 10);
        check.thrown("1 of 0", UnsupportedOperationException.class, () -> x.run(1, 2, 1, 0));
        check.same("0 of 0", x.run(1, 2, 0, 0), 1);
        check.thrown("1 of one that there is not", UnsupportedOperationException.class, () -> x.run(5, 2, 1, 0));
        check.thrown("to itself", UnsupportedOperationException.class, () -> x.run(5, 5, 1, 0));
        x.balance(1, 0, -1);
        check.same("2^64 - 1 of it", x.run(1, 3, -1, 0), 1);
        check.same("it came", x.balanceOf(3, 3), -1);
        check.same("2^64 - 1 and 10", x.run(3, 2, -1, 0), 1);
        check.same("the sum goes above", x.balanceOf(2, 2), 1);
        check.same("the sum goes above", x.balanceOf(2, 3), 9);
        x.balance(4, 1, 0);
        check.same("of 2^64", x.run(4, 3, 1, 0), 1);
        check.same("what is left", x.balanceOf(4, 3), -1);
        check.same("what is left", x.balanceOf(4, 2), 0);
    }
}
