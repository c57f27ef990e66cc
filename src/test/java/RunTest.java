import java.util.NoSuchElementException;

/** Promises 7 environment, 8 run, 9 told, 12 word, without what one step does to another. */
public final class RunTest {
    /** MSTORE at 0 and RETURN of it. */
    private static final String TELL = "600052 60206000F3";
    private static final int TELL_GAS = 15;
    private static final String PUSH_ALL = "7F" + "FF".repeat(32);

    private RunTest() {
    }

    public static void main(String[] args) {
        Check check = new Check();
        environment(check);
        who(check);
        ranges(check);
        outcomes(check);
        values(check);
        thrownRunsChangeNothing(check);
        words(check);
        data(check);
        cutData(check);
        oneByte(check);
        jumps(check);
        stack(check);
        everyDepth(check);
        noSuchSteps(check);
        check.finish("RunTest");
    }

    /** Gas that is used; the RUN must succeed. */
    private static long tell(Check check, ContractMachine x, String hex, long due) {
        Check.code(x, 2, hex + TELL);
        check.same(hex, Check.run(x, 1, 2, 0, 100000), 1);
        check.same(hex, x.word(24), due);
        check.same(hex + " high", x.word(0) | x.word(8) | x.word(16), 0);
        return 100000 - x.told(0);
    }

    private static void environment(Check check) {
        ContractMachine x = new ContractMachine();
        String[] steps = {"3A", "41", "42", "43", "44", "45", "46"};
        for (int k = 0; k < 7; k++) {
            x.environment(k, -1 - k);
        }
        for (int k = 0; k < 7; k++) {
            check.same("gas of " + steps[k], tell(check, x, steps[k], -1 - k), 2 + TELL_GAS);
        }
        x.environment(3, 12);
        tell(check, x, "43", 12);
        tell(check, x, "42", -3);
        check.thrown("environment(-1)", IllegalArgumentException.class, () -> x.environment(-1, 0));
        check.thrown("environment(7)", IllegalArgumentException.class, () -> x.environment(7, 0));
    }

    private static void who(Check check) {
        ContractMachine x = new ContractMachine();
        x.balance(2, 0, 77);
        tell(check, x, "30", 2);
        tell(check, x, "32", 1);
        tell(check, x, "33", 1);
        tell(check, x, "34", 0);
        tell(check, x, "38", 9);
        check.same("SELFBALANCE", tell(check, x, "47", 77), 5 + TELL_GAS);
        tell(check, x, "58", 0);
        tell(check, x, "5B58", 1);
        tell(check, x, "59", 0);
        tell(check, x, "5A", 100000 - 2);
    }

    private static void ranges(Check check) {
        ContractMachine x = new ContractMachine();
        Class<?> range = IllegalArgumentException.class;
        check.thrown("from -1", range, () -> x.run(-1, 2, 0, 0));
        check.thrown("to -1", range, () -> x.run(1, -1, 0, 0));
        check.thrown("gas -1", range, () -> x.run(1, 2, 0, -1));
        check.thrown("gas 200001", range, () -> x.run(1, 2, 0, 200001));
        check.thrown("range before value", range, () -> x.run(1, -2, 5, 0));
        check.thrown("value", UnsupportedOperationException.class, () -> x.run(1, 2, 5, 0));
        check.same("gas 0", x.run(1, 2, 0, 0), 1);
        check.same("gas 200000", x.run(Long.MAX_VALUE, 0, 0, 200000), 1);
        check.same("gas is left", x.told(0), 200000);
        check.thrown("told(-1)", range, () -> x.told(-1));
        check.thrown("told(7)", range, () -> x.told(7));
    }

    private static void outcomes(Check check) {
        ContractMachine x = new ContractMachine();
        Check.code(x, 2, "6001600055 602A600052 60206000FD");
        check.same("by REVERT", Check.run(x, 1, 2, 0, 50000), 2);
        told(check, x, new long[] {50000 - 6 - 22100 - 6 - 6 - 6, 0, 0, 9, 32, 2, 0});
        check.same("what it gave", x.word(24), 42);
        check.same("taken back", x.stored(2, 0, 0, 0, 0, 3), 0);
        Check.code(x, 2, "6001600055 602A600052 FE");
        check.same("FAILED", Check.run(x, 1, 2, 0, 50000), 0);
        told(check, x, new long[] {0, 0, 0, 7, 0, 2, 0});
        check.thrown("no RESULT", NoSuchElementException.class, () -> x.word(0));
        check.same("taken back", x.stored(2, 0, 0, 0, 0, 3), 0);
        Check.code(x, 2, "6001600055");
        check.same("STOP behind the CODE", Check.run(x, 2, 2, 0, 50000), 1);
        told(check, x, new long[] {50000 - 22106, 0, 0, 4, 0, 1, 1});
        check.same("stays", x.stored(2, 0, 0, 0, 0, 3), 1);
        Check.code(x, 2, "6001600055 00 FE");
        check.same("STOP", Check.run(x, 1, 2, 0, 50000), 1);
        told(check, x, new long[] {50000 - 6 - 2200, 0, 0, 4, 0, 2, 1});
        check.same("without CODE", Check.run(x, 1, 9, 0, 5), 1);
        told(check, x, new long[] {5, 0, 0, 1, 0, 2, 0});
        Check.code(x, 2, "600160026003");
        check.same("one gas too few", Check.run(x, 1, 2, 0, 8), 0);
        told(check, x, new long[] {0, 0, 0, 3, 0, 2, 0});
        check.same("gas enough", Check.run(x, 1, 2, 0, 9), 1);
        told(check, x, new long[] {0, 0, 0, 4, 0, 2, 0});
    }

    private static void told(Check check, ContractMachine x, long[] due) {
        for (int k = 0; k < 7; k++) {
            check.same("told(" + k + ")", x.told(k), due[k]);
        }
    }

    private static void values(Check check) {
        ContractMachine x = new ContractMachine();
        x.balance(1, 1, 5);
        check.same("2^64 - 1", Check.run(x, 1, 9, -1, 0), 1);
        check.same("of the SENDER", x.balanceOf(1, 3), 6);
        check.same("of the SENDER", x.balanceOf(1, 2), 0);
        check.same("of the other", x.balanceOf(9, 3), -1);
        check.same("of the other", x.balanceOf(9, 2), 0);
        check.thrown("one too many", UnsupportedOperationException.class, () -> x.run(1, 9, 7, 0));
        check.same("to itself", Check.run(x, 1, 1, 6, 0), 1);
        check.same("to itself", x.balanceOf(1, 3), 6);
        Check.code(x, 2, "34600055");
        check.same("VALUE", Check.run(x, 1, 2, 4, 50000), 1);
        check.same("CALLVALUE", x.stored(2, 0, 0, 0, 0, 3), 4);
        Check.code(x, 2, "47600055");
        check.same("moved before the first step", Check.run(x, 1, 2, 1, 50000), 1);
        check.same("SELFBALANCE", x.stored(2, 0, 0, 0, 0, 3), 5);
        Check.code(x, 2, "FE");
        check.same("FAILED", Check.run(x, 1, 2, 1, 50000), 0);
        check.same("VALUE comes back", x.balanceOf(1, 3), 1);
        check.same("VALUE comes back", x.balanceOf(2, 3), 5);
        Check.code(x, 2, "60006000FD");
        check.same("by REVERT", Check.run(x, 1, 2, 1, 50000), 2);
        check.same("VALUE comes back", x.balanceOf(1, 3), 1);
    }

    private static void thrownRunsChangeNothing(Check check) {
        ContractMachine x = new ContractMachine();
        Check.code(x, 2, "602A600052 60056000A0 60206000F3");
        Check.run(x, 1, 2, 0, 9999);
        x.feed(1, 2, 3, 4, 5);
        check.thrown("value", UnsupportedOperationException.class, () -> x.run(1, 2, 1, 100));
        check.thrown("gas", IllegalArgumentException.class, () -> x.run(1, 2, 0, -1));
        check.same("the TAPE stays", x.end(20), 20);
        check.same("THE RESULT stays", x.word(24), 42);
        check.same("the LOG stays", x.log(0, 2), 5);
        check.same("told stays", x.told(4), 32);
        check.same("told stays", x.told(0), 9999 - 6 - 6 - 6 - 375 - 40 - 6);
    }

    private static void words(Check check) {
        ContractMachine x = new ContractMachine();
        Check.code(x, 2, "7F 0102030405060708 090A0B0C0D0E0F10 1112131415161718 191A1B1C1D1E1FF0 600052 601F6001F3");
        Check.run(x, 1, 2, 0, 999);
        check.same("word(0)", x.word(0), 0x0203040506070809L);
        check.same("word(1)", x.word(1), 0x030405060708090AL);
        check.same("word(23)", x.word(23), 0x191A1B1C1D1E1FF0L);
        check.same("word(24)", x.word(24), 0x1A1B1C1D1E1FF000L);
        check.same("word(30)", x.word(30), 0xF000000000000000L);
        for (int i : new int[] {-1, 31, 32, Integer.MIN_VALUE, Integer.MAX_VALUE}) {
            check.thrown("word(" + i + ")", NoSuchElementException.class, () -> x.word(i));
        }
    }

    private static void data(Check check) {
        ContractMachine x = new ContractMachine();
        String[][] cases = {
            {"600035", "1122334400000000"},
            {"600335", "4400000000000000"},
            {"600435", "0"},
            {PUSH_ALL + "35", "0"},
            {"36 60C01B", "4"},
            {"6003 6002 6001 37 600051", "33440000000000"},
            {PUSH_ALL + "600052 6008 6001 6000 37 600051", "2233440000000000"},
            {PUSH_ALL + "600052 6006 6002 6000 37 600051", "334400000000FFFF"},
            {"6003" + PUSH_ALL + "6000 37 600051", "0"},
            {"6001 6002 6007 37 600051", "33"},
            {"6004 6000 6000 39 600051", "6004600000000000"},
            {"6003 6030 6000 39 600051", "0"}};
        for (String[] one : cases) {
            Check.code(x, 2, one[0] + TELL);
            Check.tape(x, "11223344");
            check.same(one[0], x.run(1, 2, 0, 1000), 1);
            check.same(one[0], x.word(0), Long.parseUnsignedLong(one[1], 16));
        }
    }

    /** Bytes that were cut off the TAPE are not DATA. */
    private static void cutData(Check check) {
        ContractMachine x = new ContractMachine();
        String[] reads = {"600035", "6020 6000 6000 37 600051"};
        for (String read : reads) {
            Check.code(x, 2, read + TELL);
            x.feed(-1, -1, -1, -1, -1);
            x.end(3);
            x.run(1, 2, 0, 1000);
            check.same(read, x.word(0), 0xFFFFFF0000000000L);
        }
    }

    private static void oneByte(Check check) {
        ContractMachine x = new ContractMachine();
        Check.code(x, 2, "61 1234 6000 53 61 5678 6002 53 60036000F3");
        check.same("MSTORE8", Check.run(x, 1, 2, 0, 1000), 1);
        check.same("MSTORE8", x.word(0), 0x3400780000000000L);
        Check.code(x, 2, "61 1256 6003 53 60016003F3");
        check.same("a RESULT of one byte", Check.run(x, 1, 2, 0, 1000), 1);
        check.same("a RESULT of one byte", x.word(0), 0x5600000000000000L);
        Check.code(x, 2, "60016000A0 60996000 53 60016000A0");
        check.same("LOGS of one byte", Check.run(x, 1, 2, 0, 1000), 1);
        check.same("LOGS of one byte", x.logWord(0, 0), 0);
        check.same("LOGS of one byte", x.logWord(1, 0), 0x9900000000000000L);
    }

    private static void jumps(Check check) {
        ContractMachine x = new ContractMachine();
        Object[][] cases = {
            {"6003 56 5B", 1}, {"6004 56 5B", 0}, {"6003 56 00", 0}, {"6004 56 60 5B", 0},
            {"6005 56 61 5B 5B 5B", 0}, {"6006 56 61 5B5B 5B", 1}, {"600556 7F 5B", 0},
            {"6001 6005 57 5B", 1}, {"6001 6004 57 5B", 0}, {"6001 6006 57 FE 5B", 1}, {"6000 6009 57 00", 1},
            {"6000 6000 57 FE", 0},
            {"63 FFFFFFFF 56", 0}, {"64 0100000006 56 5B", 0}, {"64 0100000007 56 5B", 0},
            {"7F 0000000000000000000000000000000100000000000000000000000000000022 56 5B", 0},
            {"7F 0000000000000000000000000000000000000000000000000000000000000022 56 5B", 1},
            {"7F 8000000000000000000000000000000000000000000000000000000000000000 6006 57 FE 5B", 0},
            {"7F 8000000000000000000000000000000000000000000000000000000000000000 6025 57 FE 5B", 1},
            {"6003 56 60", 0}, {"62 5B", 1}, {"60", 1}, {"7F", 1}};
        for (Object[] one : cases) {
            Check.code(x, 2, (String) one[0]);
            check.same((String) one[0], Check.run(x, 1, 2, 0, 1000), (Integer) one[1]);
        }
        tell(check, x, "60FF 50 6001", 1);
        check.same("too few NUMBERS", ends(x, "600052 60206000F3"), 0);
        // what an earlier CODE had behind the end of this one is no JUMPDEST
        ends(x, "5B".repeat(2048));
        check.same("to the end of the CODE", ends(x, "6003 56"), 0);
        check.same("behind it", ends(x, "6004 56"), 0);
        check.same("to the end of the longest", ends(x, "610800 56" + "5B".repeat(2044)), 0);
        check.same("to its last byte", ends(x, "6107FF 56" + "5B".repeat(2044)), 1);
    }

    private static void stack(Check check) {
        ContractMachine x = new ContractMachine();
        byte[] dups = new byte[1026];
        java.util.Arrays.fill(dups, (byte) 0x80);
        dups[0] = 0x60;
        dups[1] = 0x01;
        Check.tape(x, java.util.Arrays.copyOf(dups, 1025));
        x.code(2);
        check.same("1024 NUMBERS", Check.run(x, 1, 2, 0, 5000), 1);
        check.same("steps", x.told(3), 1025);
        Check.tape(x, dups);
        x.code(2);
        check.same("1025 NUMBERS", Check.run(x, 1, 2, 0, 5000), 0);
        check.same("steps", x.told(3), 1025);
        String full = "6001" + "80".repeat(1023);
        for (String more : new String[] {"30", "36", "47", "58", "59", "5A", "6001", "7F", "80", "8F"}) {
            Check.code(x, 2, full + more);
            check.same("full, then " + more, Check.run(x, 1, 2, 0, 5000), 0);
        }
        for (String more : new String[] {"01", "15", "19", "35", "50", "51", "5B", "90", "9F", "3B"}) {
            Check.code(x, 2, full + more);
            check.same("full, then " + more, Check.run(x, 1, 2, 0, 9000), 1);
        }
        String ten = "600A 6009 6008 6007 6006 6005 6004 6003 6002 6001 600F 600E 600D 600C 600B 6010 6011";
        tell(check, x, ten + "8F", 9);
        tell(check, x, ten + "80", 17);
        tell(check, x, ten + "9F", 10);
        tell(check, x, ten + "90", 16);
        tell(check, x, ten + "9F 50 8F", 17);
        for (int n = 1; n <= 16; n++) {
            String some = "6001".repeat(n);
            String dup = Integer.toHexString(0x7F + n);
            String swap = Integer.toHexString(0x8F + n);
            check.same("DUP" + n, ends(x, some + dup), 1);
            check.same("DUP" + n, ends(x, some.substring(4) + dup), 0);
            check.same("SWAP" + n, ends(x, some + "6001" + swap), 1);
            check.same("SWAP" + n, ends(x, some + swap), 0);
        }
    }

    /** All that stands on the STACK behind DUP and SWAP, with NUMBERS that differ in every byte. */
    private static void everyDepth(Check check) {
        for (int op = 0x80; op <= 0x9F; op++) {
            ContractMachine x = new ContractMachine();
            int depth = (op & 15) + 1;
            StringBuilder code = new StringBuilder();
            for (int k = 17; k >= 1; k--) {
                code.append("7F").append(String.format("%02X", 0x80 + k).repeat(32));
            }
            code.append(String.format("%02X", op));
            int many = op < 0x90 ? 18 : 17;
            for (int k = 0; k < many; k++) {
                code.append(String.format("61%04X52", 32 * k));
            }
            code.append(String.format("61%04X6000F3", 32 * many));
            Check.code(x, 2, code.toString());
            check.same("succeeds", Check.run(x, 1, 2, 0, 5000), 1);
            check.same("one more is too many", ends(x, code.substring(0, code.length() - 12) + "50"), 0);
            Check.code(x, 2, code.toString());
            Check.run(x, 1, 2, 0, 5000);
            for (int k = 0; k < many; k++) {
                int due = op < 0x90 ? k == 0 ? depth : k : k == 0 ? depth + 1 : k == depth ? 1 : k + 1;
                for (int j = 0; j < 32; j += 8) {
                    check.same(String.format("%02X, NUMBER %d", op, k), x.word(32 * k + j),
                        0x0101010101010101L * (0x80 + due));
                }
            }
        }
    }

    private static int ends(ContractMachine x, String hex) {
        Check.code(x, 2, hex);
        return Check.run(x, 1, 2, 0, 9000);
    }

    private static void noSuchSteps(Check check) {
        String known = " 00 01 02 03 04 05 06 07 08 09 0A 0B 10 11 12 13 14 15 16 17 18 19 1A 1B 1C 1D 20"
            + " 30 31 32 33 34 35 36 37 38 39 3A 3B 3C 3D 3E 3F 41 42 43 44 45 46 47"
            + " 50 51 52 53 54 55 57 58 59 5A 5B A0 A1 A2 A3 A4 F1 F2 F3 F4 FA FD FF";
        for (int op = 0; op < 256; op++) {
            String two = String.format("%02X", op);
            boolean is = known.contains(" " + two) || op >= 0x60 && op <= 0x9F;
            check.same(two, ends(new ContractMachine(), "6000".repeat(17) + two), !is ? 0 : op == 0xFD ? 2 : 1);
        }
    }
}
