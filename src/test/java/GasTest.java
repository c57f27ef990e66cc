/** What steps cost, and MEMORY, ACCESS (promises 8 and 9): numbers worked out by hand from the document. */
public final class GasTest {
    private static final String FAR = "7F" + "FF".repeat(32);

    private GasTest() {
    }

    public static void main(String[] args) {
        Check check = new Check();
        fixed(check);
        exponents(check);
        memory(check);
        memoryEdges(check);
        copies(check);
        digests(check);
        access(check);
        digestOfCode(check);
        returnedBeyond(check);
        check.finish("GasTest");
    }

    /** The CODE succeeds with just this gas and FAILS with one less. */
    private static void costs(Check check, ContractMachine x, String hex, int due) {
        Check.code(x, 2, hex);
        check.same(hex + " succeeds", Check.run(x, 1, 2, 0, 200000), 1);
        check.same(hex + " costs", 200000 - x.told(0), due);
        check.same(hex + " with just enough", Check.run(x, 1, 2, 0, due), 1);
        check.same(hex + " leaves", x.told(0), 0);
        if (due > 0) {
            check.same(hex + " with one less", Check.run(x, 1, 2, 0, due - 1), 0);
        }
    }

    private static void costs(Check check, String hex, int due) {
        costs(check, new ContractMachine(), hex, due);
    }

    private static void fixed(Check check) {
        costs(check, "", 0);
        costs(check, "00", 0);
        int[][] costs = {{0x01, 3}, {0x02, 5}, {0x03, 3}, {0x04, 5}, {0x05, 5}, {0x06, 5}, {0x07, 5}, {0x08, 8},
            {0x09, 8}, {0x0A, 60}, {0x0B, 5}, {0x10, 3}, {0x11, 3}, {0x12, 3}, {0x13, 3}, {0x14, 3}, {0x15, 3},
            {0x16, 3}, {0x17, 3}, {0x18, 3}, {0x19, 3}, {0x1A, 3}, {0x1B, 3}, {0x1C, 3}, {0x1D, 3}, {0x30, 2},
            {0x32, 2}, {0x33, 2}, {0x34, 2}, {0x35, 3}, {0x36, 2}, {0x38, 2}, {0x3A, 2}, {0x3D, 2}, {0x41, 2},
            {0x42, 2}, {0x43, 2}, {0x44, 2}, {0x45, 2}, {0x46, 2}, {0x47, 5}, {0x50, 2}, {0x58, 2}, {0x59, 2},
            {0x5A, 2}, {0x5B, 1}, {0x60, 3}, {0x7F, 3}, {0x80, 3}, {0x82, 3}, {0x90, 3}, {0x91, 3}};
        for (int[] one : costs) {
            costs(check, "600160016001" + String.format("%02X", one[0]), 9 + one[1]);
        }
        costs(check, "600356 5B", 3 + 8 + 1);
        costs(check, "6001600557 5B", 3 + 3 + 10 + 1);
        costs(check, "6000600057", 3 + 3 + 10);
    }

    private static void exponents(Check check) {
        costs(check, "60006002 0A", 6 + 10);
        costs(check, "60FF6002 0A", 6 + 60);
        costs(check, "6101006002 0A", 6 + 110);
        costs(check, "62FFFFFF6002 0A", 6 + 160);
        costs(check, "64 0100000000 6000 0A", 6 + 10 + 250);
        costs(check, FAR + FAR + "0A", 6 + 10 + 1600);
    }

    private static void memory(Check check) {
        costs(check, "600051", 3 + 3 + 3);
        costs(check, "600151", 3 + 3 + 6);
        costs(check, "6001602052", 6 + 3 + 6);
        costs(check, "6001602152", 6 + 3 + 9);
        costs(check, "6001601F53", 6 + 3 + 3);
        costs(check, "6001602053", 6 + 3 + 6);
        costs(check, "600051 600051 600151", 9 + 6 + 9);
        // 32 words: 96 + 2; 512 words: 1536 + 512; 3000 words: 9000 + 17578
        costs(check, "6103E0 51", 3 + 3 + 98);
        costs(check, "613FE0 51", 3 + 3 + 2048);
        costs(check, "62 0176E0 51", 3 + 3 + 26578);
        costs(check, "6103E0 51 613FE0 51", 6 + 6 + 2048);
        costs(check, "602060005200", 6 + 3 + 3);
        costs(check, "6020600052 59 600052", 12 + 2 + 6);
        costs(check, "60406000F3", 6 + 6);
        costs(check, "600060FFF3", 6);
        costs(check, "6000" + FAR + "F3", 6);
        costs(check, "6000" + FAR + "20", 6 + 30);
        costs(check, "6000" + FAR + FAR + "37", 9 + 3);
        costs(check, "6000" + FAR + "A0", 6 + 375);
    }

    private static void memoryEdges(Check check) {
        ContractMachine x = new ContractMachine();
        String[] far = {"62 FFFFFF 51", "63 FFFFFFE0 51", "63 FFFFFFFF 51", "64 0100000000 51", FAR + "51",
            "6001" + FAR + "52", "6001" + FAR + "53", "6001 63FFFFFFFF 53", "6001" + FAR + "F3", FAR + "6001 F3",
            FAR + "6001 20", "6001" + FAR + "A0", FAR + FAR + "F3", FAR + "6001 A0", FAR + "60006000 37",
            FAR + "60006000 39", "6001 6000" + FAR + "37", "67 8000000000000000 51", "67 FFFFFFFFFFFFFFE0 51",
            "6801 0000000000000000 51", "6001 6000 62FFFFFF 37", "6001 6000 62FFFFFF 39", "6001 63FFFFFFFF F3",
            "6001 62FFFFFF 20", "6001 62FFFFFF A0", "6001 62FFFFFF FD", "6001 6000 62FFFFFF 6002 3C"};
        for (String hex : far) {
            Check.code(x, 2, hex);
            check.same(hex, Check.run(x, 1, 2, 0, 200000), 0);
        }
        // 9380 words cost 28140 + 171844, one more 28143 + 171881
        Check.code(x, 2, "62 049460 51");
        check.same("9380 words", Check.run(x, 1, 2, 0, 200000), 1);
        check.same("gas", x.told(0), 200000 - 6 - 28140 - 171844);
        Check.code(x, 2, "62 049480 51");
        check.same("9381 words", Check.run(x, 1, 2, 0, 200000), 0);
        Check.code(x, 2, "62 049460 6000 F3");
        check.same("as THE RESULT", Check.run(x, 1, 2, 0, 200000), 1);
        check.same("its bytes", x.told(4), 0x049460);
        check.same("its last byte", x.word(0x04945F), 0);
        // MEMORY is new in every RUN
        Check.code(x, 2, FAR + "602052 00");
        Check.run(x, 1, 2, 0, 9999);
        Check.code(x, 2, "602151 600052 60206000F3");
        Check.run(x, 1, 2, 0, 9999);
        check.same("MEMORY of bytes 0", x.word(0) | x.word(8) | x.word(16) | x.word(24), 0);
    }

    private static void copies(Check check) {
        for (String op : new String[] {"37", "39"}) {
            costs(check, "600060006000" + op, 9 + 3);
            costs(check, "600160006000" + op, 9 + 3 + 3 + 3);
            costs(check, "602060006000" + op, 9 + 3 + 3 + 3);
            costs(check, "602160006000" + op, 9 + 3 + 6 + 6);
            costs(check, "602060006001" + op, 9 + 3 + 3 + 6);
        }
        costs(check, "600060006000 3E", 9 + 3);
        costs(check, "6000600060006002 3C", 12 + 100);
        costs(check, "6021600060006002 3C", 12 + 100 + 6 + 6);
        costs(check, "6021600060006009 3C", 12 + 2600 + 6 + 6);
    }

    private static void digests(Check check) {
        costs(check, "6000600020", 6 + 30);
        costs(check, "6001600020", 6 + 30 + 6 + 3);
        costs(check, "6020600020", 6 + 30 + 6 + 3);
        costs(check, "6021600020", 6 + 30 + 12 + 6);
        ContractMachine x = new ContractMachine();
        Check.code(x, 2, "62616263 60E81B 600052 60036000 20 600052 60206000F3");
        check.same("SHA3", Check.run(x, 1, 2, 0, 1000), 1);
        check.same("of abc", x.word(0), 0x4E03657AEA45A94FL);
        check.same("of abc", x.word(24), 0xEC44F58FA12D6C45L);
    }

    private static void access(Check check) {
        for (String op : new String[] {"31", "3B", "3F"}) {
            costs(check, "6001" + op, 3 + 100);
            costs(check, "6002" + op, 3 + 100);
            costs(check, "6003" + op, 3 + 2600);
            costs(check, "6003" + op + "6003" + op, 6 + 2700);
            // only the lowest 160 bits tell
            costs(check, "75 FFFF 0000000000000000000000000000000000000001" + op, 3 + 100);
            costs(check, "74 01 0000000000000000000000000000000000000001" + op, 3 + 100);
            costs(check, "73 0100000000000000000000000000000000000001" + op, 3 + 2600);
        }
        costs(check, "600031 60003B 60003F 6000600060006000 3C", 3 * 3 + 2600 + 200 + 12 + 100);
        ContractMachine x = new ContractMachine();
        Check.code(x, 2, "600331 600431 600331 600131");
        Check.run(x, 1, 2, 0, 9999);
        check.same("TOUCHED", x.told(5), 4);
        check.same("anew in every RUN", Check.run(x, 1, 2, 0, 12 + 2600 + 2600 + 200 - 1), 0);
        check.same("taken back", x.told(5), 2);
        Check.code(x, 2, "600331 60006000FD");
        Check.run(x, 1, 2, 0, 9999);
        check.same("taken back", x.told(5), 2);
    }

    private static void digestOfCode(Check check) {
        ContractMachine x = new ContractMachine();
        x.balance(5, 0, 1);
        x.store(6, 0, 0, 1);
        Check.code(x, 3, "616263");
        long[] of = {5, 6, 3, 9};
        long[] due = {0xC5D2460186F7233CL, 0, 0x4E03657AEA45A94FL, 0};
        for (int k = 0; k < 4; k++) {
            Check.code(x, 2, String.format("60%02X3F 600052 60206000F3", of[k]));
            Check.run(x, 1, 2, 0, 9999);
            check.same("EXTCODEHASH of " + of[k], x.word(0), due[k]);
        }
        Check.code(x, 3, "6162636465");
        Check.code(x, 2, "60033F 600052 60033B 602052 6005 6001 6040 6003 3C 60606000F3");
        Check.run(x, 1, 2, 0, 9999);
        check.same("of new CODE", x.word(0),
            ReferenceKeccak.number(Check.bytes("6162636465")).shiftRight(192).longValue());
        check.same("EXTCODESIZE", x.word(56), 5);
        check.same("EXTCODECOPY", x.word(64), 0x6263646500000000L);
    }

    private static void returnedBeyond(Check check) {
        ContractMachine x = new ContractMachine();
        Check.code(x, 3, "60036000F3");
        String call = "60006000600060006003 61FFFF FA 50";
        Object[][] cases = {{"6003 6000 6000 3E", 1}, {"6000 6003 6000 3E", 1}, {"6004 6000 6000 3E", 0},
            {"6003 6001 6000 3E", 0}, {"6000 6004 6000 3E", 0}, {"6001 6002 6000 3E", 1},
            {"6001" + FAR + "6000 3E", 0}, {FAR + "6001 6000 3E", 0}, {"6000" + FAR + "6000 3E", 0}};
        for (Object[] one : cases) {
            Check.code(x, 2, call + one[0]);
            check.same((String) one[0], Check.run(x, 1, 2, 0, 99999), (Integer) one[1]);
        }
        Check.code(x, 2, "6001 6000 6000 3E");
        check.same("none at first", Check.run(x, 1, 2, 0, 9999), 0);
    }
}
