/** Promises 4 code, 5 balance, 6 store, 13 balanceOf, 14 stored, 15 codeSize, and their LIMITS. */
public final class WorldTest {
    private static final Class<?> RANGE = IllegalArgumentException.class;
    private static final Class<?> LIMIT = IndexOutOfBoundsException.class;

    private WorldTest() {
    }

    public static void main(String[] args) {
        Check check = new Check();
        code(check);
        longCode(check);
        balance(check);
        store(check);
        ranges(check);
        accounts(check);
        places(check);
        countedOnce(check);
        askingCountsNothing(check);
        check.finish("WorldTest");
    }

    private static void code(Check check) {
        ContractMachine x = new ContractMachine();
        Check.tape(x, "6001600255");
        check.same("code", x.code(7), 5);
        check.same("codeSize", x.codeSize(7), 5);
        check.thrown("the TAPE is empty", RANGE, () -> x.end(1));
        check.same("of another", x.codeSize(8), 0);
        check.same("it runs", Check.run(x, 1, 7, 0, 30000), 1);
        check.same("what it stored", x.stored(7, 0, 0, 0, 2, 3), 1);
        Check.tape(x, "00");
        check.same("code anew", x.code(7), 1);
        check.same("codeSize", x.codeSize(7), 1);
        check.same("STORAGE stays", x.stored(7, 0, 0, 0, 2, 3), 1);
        check.same("no CODE", x.code(7), 0);
        check.same("codeSize", x.codeSize(7), 0);
        Check.tape(x, "5B 5B");
        x.code(Long.MAX_VALUE);
        check.same("of the highest address", x.codeSize(Long.MAX_VALUE), 2);
        check.thrown("code(-1)", RANGE, () -> x.code(-1));
        check.thrown("codeSize(-1)", RANGE, () -> x.codeSize(-1));
    }

    private static void longCode(Check check) {
        ContractMachine x = new ContractMachine();
        byte[] most = new byte[2048];
        java.util.Arrays.fill(most, (byte) 0x5B);
        Check.tape(x, most);
        check.same("2048 bytes", x.code(1), 2048);
        check.same("all are done", Check.run(x, 2, 1, 0, 3000), 1);
        check.same("gas", x.told(0), 3000 - 2048);
        check.same("steps", x.told(3), 2049);
        Check.tape(x, new byte[2049]);
        check.thrown("2049 bytes", LIMIT, () -> x.code(1));
        check.thrown("a wrong address comes first", RANGE, () -> x.code(-1));
        check.same("the CODE stays", x.codeSize(1), 2048);
        check.same("the TAPE stays", x.end(2049), 2049);
    }

    private static void balance(Check check) {
        ContractMachine x = new ContractMachine();
        x.balance(5, -2, -3);
        check.same("part 0", x.balanceOf(5, 0), 0);
        check.same("part 1", x.balanceOf(5, 1), 0);
        check.same("part 2", x.balanceOf(5, 2), -2);
        check.same("part 3", x.balanceOf(5, 3), -3);
        x.balance(5, 0, 1);
        check.same("anew", x.balanceOf(5, 2), 0);
        check.same("anew", x.balanceOf(5, 3), 1);
        x.balance(5, 0, 0);
        check.same("gone", x.balanceOf(5, 3), 0);
        x.balance(0, 0, 9);
        check.same("of address 0", x.balanceOf(0, 3), 9);
    }

    private static void store(Check check) {
        ContractMachine x = new ContractMachine();
        x.store(3, -1, -7, 6);
        check.same("place 2^64 - 1", x.stored(3, 0, 0, 0, -1, 2), -7);
        check.same("place 2^64 - 1", x.stored(3, 0, 0, 0, -1, 3), 6);
        check.same("place 2^64 - 1", x.stored(3, 0, 0, 0, -1, 1), 0);
        check.same("place 2^256 - 1", x.stored(3, -1, -1, -1, -1, 3), 0);
        check.same("place 2^128 - 1", x.stored(3, 0, 0, -1, -1, 3), 0);
        check.same("of another", x.stored(4, 0, 0, 0, -1, 3), 0);
        x.store(3, -1, 0, 0);
        check.same("0 again", x.stored(3, 0, 0, 0, -1, 2), 0);
        Check.code(x, 3, "7F 1112131415161718 2122232425262728 3132333435363738 4142434445464748"
            + "7F 5152535455565758 6162636465666768 7172737475767778 8182838485868788 55");
        check.same("run", Check.run(x, 1, 3, 0, 30000), 1);
        long[] p = {0x5152535455565758L, 0x6162636465666768L, 0x7172737475767778L, 0x8182838485868788L};
        long[] due = {0x1112131415161718L, 0x2122232425262728L, 0x3132333435363738L, 0x4142434445464748L};
        for (int part = 0; part < 4; part++) {
            check.same("part " + part, x.stored(3, p[0], p[1], p[2], p[3], part), due[part]);
            long[] q = p.clone();
            q[part]++;
            check.same("beside it", x.stored(3, q[0], q[1], q[2], q[3], part), 0);
            q = p.clone();
            q[part] ^= 1L << 63;
            check.same("far from it", x.stored(3, q[0], q[1], q[2], q[3], part), 0);
        }
    }

    private static void ranges(Check check) {
        ContractMachine x = new ContractMachine();
        for (long address : new long[] {-1, Long.MIN_VALUE}) {
            check.thrown("balance", RANGE, () -> x.balance(address, 0, 1));
            check.thrown("store", RANGE, () -> x.store(address, 0, 0, 1));
            check.thrown("balanceOf", RANGE, () -> x.balanceOf(address, 0));
            check.thrown("stored", RANGE, () -> x.stored(address, 0, 0, 0, 0, 0));
        }
        for (int part : new int[] {-1, 4, Integer.MIN_VALUE, Integer.MAX_VALUE}) {
            check.thrown("balanceOf", RANGE, () -> x.balanceOf(1, part));
            check.thrown("stored", RANGE, () -> x.stored(1, 0, 0, 0, 0, part));
        }
    }

    private static void accounts(Check check) {
        ContractMachine x = new ContractMachine();
        for (int k = 0; k < 64; k++) {
            if (k % 3 == 0) {
                x.balance(k, 0, 1);
            } else if (k % 3 == 1) {
                x.store(k, k, 0, 1);
            } else {
                Check.code(x, k, "00");
            }
        }
        check.thrown("balance of the 65th", LIMIT, () -> x.balance(64, 1, 0));
        check.thrown("store of the 65th", LIMIT, () -> x.store(64, 0, 0, 1));
        Check.tape(x, "5B");
        check.thrown("code of the 65th", LIMIT, () -> x.code(64));
        check.same("the TAPE stays", x.end(1), 1);
        check.thrown("a wrong address comes first", RANGE, () -> x.balance(-1, 1, 0));
        check.same("nothing came", x.balanceOf(64, 2) + x.stored(64, 0, 0, 0, 0, 3) + x.codeSize(64), 0);
        x.balance(64, 0, 0);
        x.store(64, 0, 0, 0);
        x.end(0);
        check.same("no CODE for the 65th", x.code(64), 0);
        x.balance(1, 0, 5);
        check.same("one of the 64", x.balanceOf(1, 3), 5);
        x.balance(0, 0, 0);
        check.thrown("one that was counts on", LIMIT, () -> x.balance(64, 0, 1));
        x.balance(0, 0, 3);
        check.same("but it can be again", x.balanceOf(0, 3), 3);
    }

    private static void places(Check check) {
        ContractMachine x = new ContractMachine();
        for (int k = 0; k < 400; k++) {
            x.store(k % 4, k / 4, 0, k + 1);
        }
        check.thrown("the 401st", LIMIT, () -> x.store(0, 100, 0, 1));
        check.thrown("of another ACCOUNT", LIMIT, () -> x.store(9, 0, 0, 1));
        x.store(9, 0, 0, 0);
        x.store(3, 99, 0, 0);
        check.thrown("one that was counts on", LIMIT, () -> x.store(0, 100, 0, 1));
        x.store(3, 99, 7, 8);
        check.same("but it can be again", x.stored(3, 0, 0, 0, 99, 2), 7);
        for (int k = 0; k < 63; k++) {
            x.balance(1000 + k, 0, k < 60 ? 1 : 0);
        }
        check.thrown("the place that failed opened no ACCOUNT", LIMIT, () -> x.balance(2000, 0, 1));
        check.same("60 and the four that store", x.balanceOf(1059, 3), 1);
    }

    private static void askingCountsNothing(Check check) {
        ContractMachine x = new ContractMachine();
        for (int k = 0; k < 70; k++) {
            check.same("asked", x.balanceOf(k, 3) + x.codeSize(k) + x.stored(k, 0, 0, 0, 0, 3), 0);
        }
        for (int k = 0; k < 64; k++) {
            x.balance(500 + k, 0, 1);
        }
        check.same("the 64th", x.balanceOf(563, 3), 1);
    }

    private static void countedOnce(Check check) {
        ContractMachine x = new ContractMachine();
        for (int k = 0; k < 70; k++) {
            x.balance(1, 0, 1);
            x.balance(1, 0, 0);
            x.store(2, 0, 0, 1);
            x.store(2, 0, 0, 0);
            Check.code(x, 3, "00");
        }
        for (int k = 0; k < 61; k++) {
            x.balance(100 + k, 0, 1);
        }
        check.thrown("the 65th", LIMIT, () -> x.balance(200, 0, 1));
    }
}
