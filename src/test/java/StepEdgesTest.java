import java.math.BigInteger;
import java.util.NoSuchElementException;

/** The edges of the STEPS 20 .. A4 and FF (promises 8 to 12, 14): 0 behind, of length 0, DEAD ones, DESTROYED ones. */
public final class StepEdgesTest {
    private static final Class<?> NONE = NoSuchElementException.class;

    private final Check check;

    private StepEdgesTest(Check check) {
        this.check = check;
    }

    public static void main(String[] args) {
        Check check = new Check();
        StepEdgesTest test = new StepEdgesTest(check);
        test.digests();
        test.loadedData();
        test.copies();
        test.copiesKeepTheRest();
        test.returnedCopies();
        test.codeOfOthers();
        test.dead();
        test.deadWithinARun();
        test.smallOnes();
        test.storing();
        test.storingNeeds2301();
        test.storingOfTheRun();
        test.logs();
        test.destroying();
        test.destroyedOnce();
        test.destroyedAtTheEnd();
        check.finish("StepEdgesTest");
    }

    private static int run(ContractMachine x, String hex) {
        Check.code(x, 2, hex);
        return Check.run(x, 1, 2, 0, 200000);
    }

    private static byte[] counted(int n) {
        byte[] bytes = new byte[n];
        for (int k = 0; k < n; k++) {
            bytes[k] = (byte) (k + 1);
        }
        return bytes;
    }

    /** 8 bytes, the highest first, 0 behind the end. */
    private static long eight(byte[] bytes, int from) {
        long eight = 0;
        for (int k = from; k < from + 8; k++) {
            eight = eight << 8 | (k < bytes.length ? bytes[k] & 255 : 0);
        }
        return eight;
    }

    private void digests() {
        for (int n : new int[] {0, 1, 31, 32, 33, 135, 136, 137, 271, 272, 273}) {
            byte[] bytes = counted(n);
            BigInteger due = ReferenceKeccak.number(bytes);
            ContractMachine x = new ContractMachine();
            Check.code(x, 2, "366000600537 366005 20" + Code.TELL);
            Check.tape(x, bytes);
            for (int part = 0; part < 4; part++) {
                check.same("keccak of " + n, x.keccak(part), due.shiftRight(192 - 64 * part).longValue());
            }
            check.same("run", x.run(1, 2, 0, 9000), 1);
            for (int part = 0; part < 4; part++) {
                check.same("SHA3 of " + n, x.word(8 * part), due.shiftRight(192 - 64 * part).longValue());
            }
        }
        ContractMachine x = new ContractMachine();
        run(x, "6000" + Code.ALL + "20" + Code.TELL);
        check.same("SHA3 of length 0 far away", x.word(0), 0xC5D2460186F7233CL);
    }

    /** CALLDATALOAD: 32 bytes of DATA from a, 0 behind. */
    private void loadedData() {
        for (int n : new int[] {0, 1, 31, 32, 33, 40}) {
            byte[] bytes = counted(n);
            for (int a : new int[] {0, 1, 7, 8, 9, 31, 32, 33, 39, 40, 41, 1000}) {
                ContractMachine x = new ContractMachine();
                Check.code(x, 2, Code.step(0x35, a) + Code.TELL);
                Check.tape(x, bytes);
                check.same("run", x.run(1, 2, 0, 9000), 1);
                for (int j = 0; j < 32; j += 8) {
                    check.same("CALLDATALOAD " + a + " of " + n, x.word(j), eight(bytes, a + j));
                }
            }
            for (int k : new int[] {31, 32, 33, 63, 64, 128, 255}) {
                ContractMachine x = new ContractMachine();
                Check.code(x, 2, Code.push32(BigInteger.ONE.shiftLeft(k)) + "35" + Code.TELL);
                Check.tape(x, bytes);
                check.same("run", x.run(1, 2, 0, 9000), 1);
                check.same("CALLDATALOAD 2^" + k, x.word(0) | x.word(8) | x.word(16) | x.word(24), 0);
            }
        }
    }

    /** c bytes from b come to MEMORY a, 0 behind: of DATA, of the CODE, of another's CODE. */
    private void copies() {
        byte[] bytes = counted(40);
        BigInteger[] from = new BigInteger[9];
        int[] small = {0, 1, 8, 32, 39, 40, 41};
        for (int k = 0; k < small.length; k++) {
            from[k] = BigInteger.valueOf(small[k]);
        }
        from[7] = BigInteger.ONE.shiftLeft(32);
        from[8] = BigInteger.ONE.shiftLeft(256).subtract(BigInteger.ONE);
        for (BigInteger b : from) {
            for (int c : new int[] {0, 1, 7, 8, 9, 31, 32, 33, 40, 41}) {
                String rest = Code.push(c) + Code.push32(b) + "6003";
                copied(bytes, b, c, rest + "37");
                copied(bytes, b, c, rest + "6004 3C");
                copied(bytes, b, c, rest + "6009 3C");
            }
        }
        ContractMachine x = new ContractMachine();
        for (int b = 0; b < 40; b++) {
            String code = "6020" + Code.push(b) + "6000 39 60206000F3";
            check.same("CODECOPY", run(x, code), 1);
            byte[] own = Check.bytes(code);
            for (int j = 0; j < 32; j += 8) {
                check.same("CODECOPY from " + b, x.word(j), eight(own, b + j));
            }
        }
    }

    /** MEMORY is of bytes FF before, so that what comes and what stays can be told apart. */
    private void copied(byte[] bytes, BigInteger b, int c, String hex) {
        ContractMachine x = new ContractMachine();
        Check.tape(x, bytes);
        x.code(4);
        Check.code(x, 2, Code.ALL + "600052" + Code.ALL + "602052" + hex + "60406000F3");
        Check.tape(x, bytes);
        check.same(hex, x.run(1, 2, 0, 20000), 1);
        byte[] due = new byte[64];
        java.util.Arrays.fill(due, (byte) 0xFF);
        boolean isDead = hex.endsWith("6009 3C");
        for (int k = 0; k < c; k++) {
            boolean isBehind = b.bitLength() > 16 || b.intValue() + k >= 40;
            due[3 + k] = isDead || isBehind ? 0 : bytes[b.intValue() + k];
        }
        for (int j = 0; j < 64; j += 8) {
            check.same(hex + " at " + j, x.word(j), eight(due, j));
        }
    }

    /** What is copied makes MEMORY longer; what it then has beside that is 0. */
    private void copiesKeepTheRest() {
        ContractMachine x = new ContractMachine();
        Check.code(x, 2, "6002 6000 603F 37 60606000F3");
        Check.tape(x, "A1A2A3");
        check.same("run", x.run(1, 2, 0, 9000), 1);
        check.same("bytes", x.told(4), 96);
        check.same("before", x.word(48), 0);
        check.same("the last of a word", x.word(56), 0xA1);
        check.same("the first of the next", x.word(64), 0xA200000000000000L);
        Check.code(x, 2, "61A1A2 603F 53 61B1B2 6040 53 60606000F3");
        check.same("run", Check.run(x, 1, 2, 0, 9000), 1);
        check.same("MSTORE8 at 63", x.word(56), 0xA2);
        check.same("MSTORE8 at 64", x.word(64), 0xB200000000000000L);
        Check.code(x, 2, Code.ALL + "601F52 603E51" + Code.TELL);
        check.same("run", Check.run(x, 1, 2, 0, 9000), 1);
        check.same("MLOAD over the end", x.word(0), 0xFF00000000000000L);
        check.same("MLOAD over the end", x.word(8) | x.word(16) | x.word(24), 0);
    }

    /** RETURNDATACOPY up to the end of RETURNED, and not a byte beyond. */
    private void returnedCopies() {
        for (int n : new int[] {0, 1, 32, 33}) {
            ContractMachine x = new ContractMachine();
            Check.code(x, 3, Code.ALL + "600052" + Code.ALL + "602052" + Code.step(0xF3, 0, n));
            Check.code(x, 4, Code.ALL + "600052" + Code.ALL + "602052" + Code.step(0xFD, 0, n));
            for (int to = 3; to <= 4; to++) {
                String call = Code.call(0xF1, 9000, to, 0) + "50";
                check.same("all of " + n, run(x, call + Code.step(0x3E, 0, 0, n)), 1);
                check.same("one more than " + n, run(x, call + Code.step(0x3E, 0, 0, n + 1)), 0);
                check.same("nothing at the end of " + n, run(x, call + Code.step(0x3E, 0, n, 0)), 1);
                check.same("nothing behind the end of " + n, run(x, call + Code.step(0x3E, 0, n + 1, 0)), 0);
                check.same("one at the end of " + n, run(x, call + Code.step(0x3E, 0, n, 1)), 0);
                if (n > 0) {
                    check.same("the last of " + n, run(x, call + Code.step(0x3E, 0, n - 1, 1) + "60206000F3"), 1);
                    check.same("the last of " + n, x.word(0), 0xFF00000000000000L);
                    check.same("two from the last of " + n, run(x, call + Code.step(0x3E, 0, n - 1, 2)), 0);
                }
                for (int k : new int[] {32, 64, 255}) {
                    String far = Code.push32(BigInteger.ONE.shiftLeft(k));
                    check.same("from 2^" + k, run(x, call + "6000" + far + "6000 3E"), 0);
                    check.same("2^" + k + " bytes", run(x, call + far + "6000 6000 3E"), 0);
                }
                check.same("nothing wraps", run(x, call + "6002" + Code.ALL + "6000 3E"), 0);
                check.same("nothing wraps", run(x, call + Code.ALL + "6002 6000 3E"), 0);
            }
        }
        ContractMachine x = new ContractMachine();
        check.same("none at first", run(x, Code.step(0x3E, 0, 0, 0)), 1);
        check.same("none at first", run(x, Code.step(0x3E, 0, 0, 1)), 0);
        check.same("none at first", run(x, Code.step(0x3E, 0, 1, 0)), 0);
    }

    private void codeOfOthers() {
        ContractMachine x = new ContractMachine();
        x.balance(5, 0, 1);
        Check.tape(x, new byte[2048]);
        x.code(6);
        long[][] sizes = {{9, 0}, {5, 0}, {6, 2048}, {2, 11}};
        for (long[] one : sizes) {
            check.same("run", run(x, Code.step(0x3B, one[0]) + Code.TELL), 1);
            check.same("EXTCODESIZE of " + one[0], x.word(24), one[1]);
            check.same("EXTCODESIZE of " + one[0] + " above", x.word(0) | x.word(8) | x.word(16), 0);
        }
        check.same("run", run(x, "38" + Code.TELL), 1);
        check.same("CODESIZE", x.word(24), 9);
        check.same("run", run(x, Code.step(0x31, 9) + Code.TELL), 1);
        check.same("BALANCE of none", x.word(24), 0);
        x.balance(5, -1, -1);
        check.same("run", run(x, Code.step(0x31, 5) + Code.TELL), 1);
        check.same("BALANCE of 2^128 - 1", x.word(16) & x.word(24), -1);
        check.same("and nothing above", x.word(0) | x.word(8), 0);
    }

    /** One with BALANCE 0 and no CODE is DEAD, as one is that there is not; STORAGE alone does not help. */
    private void dead() {
        long empty = 0xC5D2460186F7233CL;
        long stop = ReferenceKeccak.number(new byte[1]).shiftRight(192).longValue();
        for (int kind = 0; kind < 9; kind++) {
            ContractMachine x = new ContractMachine();
            x.balance(2, 0, 100);
            boolean hasBalance = kind == 1 || kind == 2 || kind == 7;
            boolean hasCode = kind == 3 || kind == 7 || kind == 8;
            x.balance(9, kind == 2 ? 1 : 0, kind == 1 || kind == 7 ? 1 : 0);
            if (hasCode || kind == 6) {
                Check.code(x, 9, "00");
            }
            if (kind == 4 || kind == 8) {
                x.store(9, 0, 0, 1);
            }
            if (kind == 5) {
                x.balance(9, 0, 1);
                x.balance(9, 0, 0);
            }
            if (kind == 6) {
                x.code(9);
            }
            boolean isDead = !hasBalance && !hasCode;
            String what = "kind " + kind + ": ";
            run(x, Code.step(0x3F, 9) + Code.TELL);
            check.same(what + "EXTCODEHASH", x.word(0), isDead ? 0 : hasCode ? stop : empty);
            boolean isNothing = (x.word(8) | x.word(16) | x.word(24)) == 0;
            check.same(what + "EXTCODEHASH in whole", isNothing ? 1 : 0, isDead ? 1 : 0);
            run(x, Code.call(0xF1, 0, 9, 0));
            check.same(what + "CALL without a value", 200000 - x.told(0), 21 + 2600);
            run(x, Code.call(0xF2, 0, 9, 1));
            check.same(what + "CALLCODE with one", 200000 - x.told(0), 21 + 2600 + 9000 - 2300);
            run(x, Code.step(0xFF, 9));
            check.same(what + "SELFDESTRUCT", 200000 - x.told(0), 3 + 5000 + 2600 + (isDead ? 25000 : 0));
        }
        for (int kind = 0; kind < 4; kind++) {
            ContractMachine x = new ContractMachine();
            x.balance(2, 0, 100);
            x.balance(9, 0, kind == 1 ? 1 : 0);
            Check.code(x, 9, kind == 2 ? "00" : "");
            x.store(9, 0, 0, kind == 3 ? 1 : 0);
            run(x, Code.call(0xF1, 0, 9, 1));
            boolean isDead = kind == 0 || kind == 3;
            check.same("kind " + kind + ": CALL", 200000 - x.told(0), 21 + 2600 + 6700 + (isDead ? 25000 : 0));
            run(x, Code.call(0xF1, 0, 9, 1));
            check.same("kind " + kind + ": CALL again", 200000 - x.told(0), 21 + 2600 + 6700);
        }
    }

    /** DEAD is who is it at that step: with a BALANCE that came or went in the RUN, and until its end with CODE. */
    private void deadWithinARun() {
        ContractMachine x = new ContractMachine();
        x.balance(2, 0, 100);
        run(x, Code.step(0x3F, 9) + "600052" + Code.call(0xF1, 0, 9, 1) + "50" + Code.step(0x3F, 9)
            + "602052 60406000F3");
        check.same("before a BALANCE came", x.word(0), 0);
        check.same("behind it", x.word(32), 0xC5D2460186F7233CL);
        // 4 gives all it has to 5 and has CODE on, until the RUN ends
        x.balance(4, 0, 7);
        Check.code(x, 4, Code.step(0xFF, 5));
        run(x, Code.call(0xF1, 90000, 4, 0) + "50" + Code.step(0x3F, 4) + Code.TELL);
        check.same("DESTROYED, not DEAD", x.word(0),
            ReferenceKeccak.number(Check.bytes("6005FF")).shiftRight(192).longValue());
        run(x, Code.step(0x3F, 4) + Code.TELL);
        check.same("DEAD behind the RUN", x.word(0), 0);
        // taken back: DEAD again
        Check.code(x, 3, Code.call(0xF1, 0, 8, 1) + "60006000FD");
        run(x, Code.call(0xF1, 90000, 3, 5) + "50" + Code.step(0x3F, 8) + Code.TELL);
        check.same("DEAD again", x.word(0), 0);
        // the SENDER gave all it had
        x.balance(1, 0, 3);
        Check.code(x, 2, Code.step(0x3F, 1) + Code.TELL);
        Check.run(x, 1, 2, 2, 9000);
        check.same("the SENDER has 1", x.word(0), 0xC5D2460186F7233CL);
        Check.run(x, 1, 2, 1, 9000);
        check.same("the SENDER has 0", x.word(0), 0);
    }

    private void smallOnes() {
        ContractMachine x = new ContractMachine();
        Check.code(x, 2, "5A" + Code.TELL);
        Check.run(x, 1, 2, 0, 17);
        check.same("GAS is what is left behind it", x.word(24), 15);
        check.same("all is used", x.told(0), 0);
        Check.run(x, 1, 2, 0, 200000);
        check.same("GAS", x.word(24), 199998);
        run(x, "58" + Code.TELL);
        check.same("PC at 0", x.word(24), 0);
        run(x, "5B".repeat(2000) + "58" + Code.TELL);
        check.same("PC at 2000", x.word(24), 2000);
        run(x, "7F" + "5B".repeat(32) + "58" + Code.TELL);
        check.same("PC behind a PUSH", x.word(24), 33);
        run(x, "36" + Code.TELL);
        check.same("CALLDATASIZE of none", x.word(24), 0);
        Check.tape(x, counted(33));
        x.run(1, 2, 0, 9000);
        check.same("CALLDATASIZE", x.word(24), 33);
    }

    private static int storeGas(int o, int c, int b) {
        return b == c || o != c ? 100 : o == 0 ? 20000 : 2900;
    }

    private static int storeRefund(int o, int c, int b) {
        if (b == c) {
            return 0;
        }
        if (o == c) {
            return o != 0 && b == 0 ? 15000 : 0;
        }
        int refund = o == 0 ? 0 : (c == 0 ? -15000 : 0) + (b == 0 ? 15000 : 0);
        return refund + (o != b ? 0 : o == 0 ? 19900 : 2800);
    }

    /** All sequences of up to four SSTOREs of 0, 1 and 2 at a place that had one of these. */
    private void storing() {
        for (int o = 0; o < 3; o++) {
            for (int many = 1; many <= 4; many++) {
                for (int which = 0; which < Math.pow(3, many); which++) {
                    storing(o, many, which);
                }
            }
        }
    }

    private void storing(int o, int many, int which) {
        ContractMachine x = new ContractMachine();
        StringBuilder code = new StringBuilder();
        x.store(2, 7, 0, o);
        int gas = 2100;
        int refund = 0;
        int c = o;
        int rest = which;
        for (int k = 0; k < many; k++) {
            int b = rest % 3;
            rest /= 3;
            code.append(Code.step(0x55, 7, b));
            gas += 6 + storeGas(o, c, b);
            refund += storeRefund(o, c, b);
            c = b;
        }
        check.same(o + ": " + code, run(x, code.toString()), 1);
        check.same(o + ": " + code + "gas", 200000 - x.told(0), gas);
        check.same(o + ": " + code + "REFUND", x.told(1), refund);
        check.same(o + ": " + code + "stored", x.stored(2, 0, 0, 0, 7, 3), c);
        check.same(o + ": " + code + "places", x.told(6), 1);
    }

    /** FAILS with 2300 gas or less, even if it costs less; and with less than it costs. */
    private void storingNeeds2301() {
        String load = Code.step(0x54, 7) + "50";
        int loaded = 3 + 2100 + 2;
        Object[][] cases = {{0, "", 0, 0, 2301}, {1, "", 0, 1, 2301}, {0, load, loaded, 0, 2301},
            {1, load, loaded, 1, 2301}, {1, "", 0, 2, 5000}, {1, load, loaded, 2, 2900}, {1, "", 0, 0, 5000},
            {1, load, loaded, 0, 2900}, {0, "", 0, 1, 22100}, {0, load, loaded, 1, 20000}};
        for (Object[] one : cases) {
            int before = (Integer) one[2] + 6;
            int due = (Integer) one[4];
            String code = one[1] + Code.step(0x55, 7, (Integer) one[3]);
            for (int gas : new int[] {0, 99, 100, 2200, 2299, 2300, 2301, due - 1, due, due + 1}) {
                ContractMachine x = new ContractMachine();
                x.store(2, 7, 0, (Integer) one[0]);
                Check.code(x, 2, code);
                String what = one[0] + ": " + code + "with " + gas;
                check.same(what, Check.run(x, 1, 2, 0, before + gas), gas >= due ? 1 : 0);
                check.same(what + " stored", x.stored(2, 0, 0, 0, 7, 3),
                    gas >= due ? (Integer) one[3] : (Integer) one[0]);
            }
        }
        // a place that was changed before in the RUN
        ContractMachine x = new ContractMachine();
        Check.code(x, 2, Code.step(0x55, 7, 1) + Code.step(0x55, 7, 2));
        check.same("2300", Check.run(x, 1, 2, 0, 6 + 22100 + 6 + 2300), 0);
        check.same("2301", Check.run(x, 1, 2, 0, 6 + 22100 + 6 + 2301), 1);
        check.same("left", x.told(0), 2201);
    }

    /** What was there when the RUN began, not when the MESSAGE did, nor in an earlier RUN. */
    private void storingOfTheRun() {
        ContractMachine x = new ContractMachine();
        Check.code(x, 3, Code.step(0x55, 7, 0));
        x.store(2, 7, 0, 1);
        run(x, Code.step(0x55, 7, 2) + Code.call(0xF4, 90000, 3, 0) + Code.step(0x55, 7, 1));
        check.same("gas", 200000 - x.told(0), 6 + 5000 + 18 + 2600 + 6 + 100 + 6 + 100);
        check.same("REFUND", x.told(1), 15000 - 15000 + 2800);
        // what was taken back is as if it had not been
        Check.code(x, 3, Code.step(0x55, 7, 0) + "60006000FD");
        run(x, Code.call(0xF4, 90000, 3, 0) + Code.step(0x55, 7, 2));
        check.same("gas", 200000 - x.told(0), 18 + 2600 + 6 + 5000 + 6 + 6 + 5000);
        check.same("REFUND", x.told(1), 0);
        // another's place of the same NUMBER is another place
        Check.code(x, 3, Code.step(0x55, 7, 0));
        x.store(3, 7, 0, 5);
        run(x, Code.call(0xF1, 90000, 3, 0) + Code.step(0x55, 7, 3));
        check.same("gas", 200000 - x.told(0), 21 + 2600 + 6 + 5000 + 6 + 5000);
        check.same("REFUND", x.told(1), 15000);
        check.same("stored", x.stored(2, 0, 0, 0, 7, 3), 3);
        check.same("of the other", x.stored(3, 0, 0, 0, 7, 3), 0);
        run(x, Code.step(0x55, 7, 3));
        check.same("in the next RUN", 200000 - x.told(0), 6 + 2200);
        // 0 at a place that never was: no REFUND, whatever else there is
        ContractMachine y = new ContractMachine();
        for (int k = 0; k < 64; k++) {
            y.balance(2 + k, 0, 5 + k);
        }
        run(y, Code.step(0x55, 7, 0));
        check.same("0 at a new place", y.told(1), 0);
        check.same("0 at a new place", 200000 - y.told(0), 6 + 2200);
    }

    private void logs() {
        for (int n : new int[] {0, 1, 7, 8, 9, 32, 33}) {
            for (int topics = 0; topics <= 4; topics++) {
                ContractMachine x = new ContractMachine();
                StringBuilder pushed = new StringBuilder();
                for (int k = topics; k > 0; k--) {
                    pushed.append(Code.push32(BigInteger.ONE.shiftLeft(64).add(BigInteger.valueOf(-k)).shiftLeft(k % 2)
                        .add(BigInteger.ONE.shiftLeft(200))));
                }
                Check.code(x, 2, "366000600037" + pushed + Code.push(n) + "6000" + Code.bare(0xA0 + topics));
                byte[] bytes = counted(40);
                Check.tape(x, bytes);
                check.same("LOG", x.run(1, 2, 0, 9000), 1);
                oneLog(x, topics, java.util.Arrays.copyOf(bytes, n));
            }
        }
    }

    private void oneLog(ContractMachine x, int topics, byte[] bytes) {
        int n = bytes.length;
        check.same("LOGS", x.told(2), 1);
        check.same("ADDRESS", x.log(0, 0), 2);
        check.same("TOPICS", x.log(0, 1), topics);
        check.same("bytes", x.log(0, 2), n);
        for (int k = 1; k <= 4; k++) {
            int what = 2 + k;
            if (k <= topics) {
                check.same("TOPIC " + k, x.log(0, what), (long) -k << k % 2);
            } else {
                check.thrown("TOPIC " + k + " of " + topics, NONE, () -> x.log(0, what));
            }
        }
        for (int j = 0; j < n; j++) {
            check.same("logWord " + j + " of " + n, x.logWord(0, j), eight(bytes, j));
        }
        check.thrown("logWord behind " + n, NONE, () -> x.logWord(0, n));
        check.thrown("logWord before it", NONE, () -> x.logWord(0, -1));
        check.thrown("logWord of the next", NONE, () -> x.logWord(1, 0));
        check.thrown("logWord of the one before", NONE, () -> x.logWord(-1, 0));
        check.thrown("the next LOG", NONE, () -> x.log(1, 0));
        check.thrown("the LOG before", NONE, () -> x.log(-1, 0));
    }

    /** 2600 if a is not TOUCHED, 25000 if it is DEAD and the BALANCE is not 0; all of it goes. */
    private void destroying() {
        for (int kind = 0; kind < 8; kind++) {
            boolean isTouched = (kind & 1) != 0;
            boolean isDead = (kind & 2) != 0;
            boolean hasSome = (kind & 4) != 0;
            ContractMachine x = new ContractMachine();
            long heir = isTouched ? 1 : 9;
            x.balance(heir, 0, isDead ? 0 : 4);
            x.balance(2, hasSome ? 5 : 0, hasSome ? 6 : 0);
            int due = 3 + 5000 + (isTouched ? 0 : 2600) + (isDead && hasSome ? 25000 : 0);
            Check.code(x, 2, Code.step(0xFF, heir));
            check.same("kind " + kind + " one less", Check.run(x, 1, 2, 0, due - 1), 0);
            check.same("kind " + kind + " REFUND", x.told(1), 0);
            check.same("kind " + kind + " stays", x.balanceOf(2, 2), hasSome ? 5 : 0);
            check.same("kind " + kind, Check.run(x, 1, 2, 0, due), 1);
            check.same("kind " + kind + " REFUND", x.told(1), 24000);
            check.same("kind " + kind + " TOUCHED", x.told(5), isTouched ? 2 : 3);
            check.same("kind " + kind + " goes", x.balanceOf(heir, 2), hasSome ? 5 : 0);
            check.same("kind " + kind + " goes", x.balanceOf(heir, 3), (hasSome ? 6 : 0) + (isDead ? 0 : 4));
            check.same("kind " + kind + " is gone", x.balanceOf(2, 3) + x.balanceOf(2, 2) + x.codeSize(2), 0);
        }
        ContractMachine x = new ContractMachine();
        x.balance(2, 5, 6);
        check.same("to itself", run(x, "30FF"), 1);
        check.same("gas", 200000 - x.told(0), 2 + 5000);
        check.same("it is gone", x.balanceOf(2, 2) + x.balanceOf(2, 3), 0);
    }

    /** REFUND 24000 more if it is not DESTROYED yet: once in a RUN, and again in the next. */
    private void destroyedOnce() {
        ContractMachine x = new ContractMachine();
        Check.code(x, 3, Code.step(0xFF, 1));
        Check.code(x, 4, Code.step(0xFF, 1));
        String third = Code.call(0xF1, 9000, 3, 0);
        run(x, third);
        check.same("once", x.told(1), 24000);
        check.same("no CODE any more", x.codeSize(3), 0);
        Check.code(x, 3, Code.step(0xFF, 1));
        run(x, third + third + third);
        check.same("thrice the same", x.told(1), 24000);
        Check.code(x, 3, Code.step(0xFF, 1));
        run(x, third + Code.call(0xF1, 9000, 4, 0) + third);
        check.same("two", x.told(1), 48000);
        // by CALLCODE and DELEGATECALL it is the one that calls
        for (int op : new int[] {0xF2, 0xF4}) {
            Check.code(x, 3, Code.step(0xFF, 1));
            run(x, Code.call(op, 9000, 3, 0) + Code.call(op, 9000, 3, 0));
            check.same("the one that calls", x.told(1), 24000);
            check.same("it has no CODE", x.codeSize(2), 0);
            check.same("the other has", x.codeSize(3), 3);
        }
        // what was taken back is not DESTROYED, so it counts when it is done again
        Check.code(x, 4, Code.call(0xF1, 9000, 3, 0) + "60006000FD");
        run(x, Code.call(0xF1, 90000, 4, 0) + third);
        check.same("taken back, then done", x.told(1), 24000);
        check.same("DESTROYED", x.codeSize(3), 0);
    }

    /** At the end of a RUN that succeeds, and not before: no BALANCE, CODE and STORAGE any more. */
    private void destroyedAtTheEnd() {
        for (String end : new String[] {"00", "60006000FD", "FE"}) {
            boolean stays = !end.equals("00");
            ContractMachine x = new ContractMachine();
            x.balance(2, 0, 50);
            x.balance(3, 0, 7);
            x.store(3, 0, 0, 8);
            x.store(3, 1, 9, 0);
            x.store(4, 0, 0, 8);
            // without DATA it goes, with DATA it tells what it still has
            Check.code(x, 3, "36 600757 6009FF 5B 600054" + Code.TELL);
            String code = Code.call(0xF1, 90000, 3, 0) + "50" + Code.call(0xF1, 9000, 3, 4, 0, 1, 0, 32) + "50"
                + "600051 600055" + end;
            check.same(end, run(x, code), stays ? end.equals("FE") ? 0 : 2 : 1);
            check.same(end + " its STORAGE within the RUN", x.stored(2, 0, 0, 0, 0, 3), stays ? 0 : 8);
            check.same(end + " BALANCE", x.balanceOf(3, 3), stays ? 7 : 0);
            check.same(end + " what came behind it is gone", x.balanceOf(2, 3), stays ? 50 : 46);
            check.same(end + " what went before", x.balanceOf(9, 3), stays ? 0 : 7);
            check.same(end + " CODE", x.codeSize(3) == 0 ? 0 : 1, stays ? 1 : 0);
            check.same(end + " STORAGE", x.stored(3, 0, 0, 0, 0, 3), stays ? 8 : 0);
            check.same(end + " STORAGE", x.stored(3, 0, 0, 0, 1, 2), stays ? 9 : 0);
            check.same(end + " another's STORAGE", x.stored(4, 0, 0, 0, 0, 3), 8);
        }
    }
}
