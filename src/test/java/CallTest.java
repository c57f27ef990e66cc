/** Calls within calls (promises 8 and 9), by hand from the document. */
public final class CallTest {
    private static final String TELL = "600052 60206000F3";

    private CallTest() {
    }

    public static void main(String[] args) {
        Check check = new Check();
        whoIsWho(check);
        costs(check);
        allBut64th(check);
        stipend(check);
        tooPoor(check);
        tooDeep(check);
        staticOnes(check);
        returned(check);
        takenBack(check);
        values(check);
        dataAndMemory(check);
        check.finish("CallTest");
    }

    /** A call without DATA and room, which gives 1 or 0. */
    private static String call(String op, int value, int to, int gas) {
        boolean valued = op.equals("F1") || op.equals("F2");
        return "6000600060006000" + (valued ? String.format("60%02X", value) : "")
            + String.format("60%02X61%04X", to, gas) + op;
    }

    private static long gasOf(ContractMachine x, String hex) {
        Check.code(x, 2, hex);
        Check.run(x, 1, 2, 0, 199999);
        return 199999 - x.told(0);
    }

    /** CODE 3 stores ADDRESS, CALLER, CALLVALUE and ORIGIN at the places 1 to 4 of whoever it is. */
    private static void whoIsWho(Check check) {
        String[] ops = {"F1", "F2", "F4"};
        long[][] due = {{3, 3, 2, 5, 1}, {2, 2, 2, 5, 1}, {2, 2, 1, 9, 1}};
        for (int k = 0; k < 3; k++) {
            ContractMachine x = new ContractMachine();
            x.balance(1, 0, 100);
            Check.code(x, 3, "30600155 33600255 34600355 32600455");
            Check.code(x, 2, "6000600060006000" + (k < 2 ? "6005" : "") + "6003 62 018000" + ops[k] + "600055");
            check.same("run", Check.run(x, 1, 2, 9, 199999), 1);
            check.same(ops[k] + " succeeded", x.stored(2, 0, 0, 0, 0, 3), 1);
            for (int p = 1; p <= 4; p++) {
                check.same(ops[k] + " place " + p, x.stored(due[k][0], 0, 0, 0, p, 3), due[k][p]);
                for (int part = 0; part < 3; part++) {
                    check.same(ops[k] + " place " + p, x.stored(due[k][0], 0, 0, 0, p, part), 0);
                }
            }
            check.same(ops[k] + " BALANCE", x.balanceOf(2, 3), k == 0 ? 4 : 9);
            check.same(ops[k] + " BALANCE", x.balanceOf(3, 3), k == 0 ? 5 : 0);
        }
        ContractMachine x = new ContractMachine();
        Check.code(x, 3, "30600052 33602052 34604052 32606052 60806000F3");
        // a CALL with a value and an ADDRESS of more than 160 bits goes before it
        String address = "7F" + "FF".repeat(12) + "00".repeat(19) + "03";
        Check.code(x, 2, "6080 6080 6000 6000 6005" + address + "61FFFF F1 50"
            + "6080 6000 6000 6000" + address + "61FFFF FA 50 61 0100 6000F3");
        x.balance(1, 0, 100);
        check.same("run", Check.run(x, 1, 2, 9, 199999), 1);
        long[] told = {3, 2, 0, 1, 3, 2, 5, 1};
        for (int k = 0; k < 8; k++) {
            check.same("number " + k, x.word(32 * k + 24), told[k]);
            check.same("number " + k + " high", x.word(32 * k) | x.word(32 * k + 8) | x.word(32 * k + 16), 0);
        }
    }

    private static void costs(Check check) {
        ContractMachine x = new ContractMachine();
        x.balance(2, 0, 50);
        Check.code(x, 3, "00");
        check.same("CALL", gasOf(x, call("F1", 0, 3, 0)), 21 + 2600);
        check.same("CALLCODE", gasOf(x, call("F2", 0, 3, 0)), 21 + 2600);
        check.same("DELEGATECALL", gasOf(x, call("F4", 0, 3, 0)), 18 + 2600);
        check.same("STATICCALL", gasOf(x, call("FA", 0, 3, 0)), 18 + 2600);
        check.same("TOUCHED", gasOf(x, call("F1", 0, 3, 0) + call("F1", 0, 3, 0)), 42 + 2700);
        check.same("the SENDER", gasOf(x, call("F1", 0, 1, 0)), 21 + 100);
        check.same("itself", gasOf(x, call("F1", 0, 2, 0)), 21 + 100);
        check.same("a value", gasOf(x, call("F1", 1, 3, 0)), 21 + 2600 + 9000 - 2300);
        check.same("CALLCODE with one", gasOf(x, call("F2", 1, 3, 0)), 21 + 2600 + 9000 - 2300);
        check.same("CALLCODE of a DEAD one", gasOf(x, call("F2", 1, 9, 0)), 21 + 2600 + 9000 - 2300);
        check.same("to a DEAD one without", gasOf(x, call("F1", 0, 9, 0)), 21 + 2600);
        check.same("to a DEAD one", gasOf(x, call("F1", 1, 9, 0)), 21 + 2600 + 9000 + 25000 - 2300);
        check.same("it is not DEAD any more", gasOf(x, call("F1", 1, 9, 0)), 21 + 2600 + 9000 - 2300);
        check.same("STOP behind no CODE is a step", stepsOf(x, call("F1", 0, 10, 0)), 8 + 1 + 1);
        x.store(8, 1, 0, 1);
        check.same("STORAGE alone is DEAD", gasOf(x, call("F1", 1, 8, 0)), 21 + 2600 + 9000 + 25000 - 2300);
        check.same("memory for both", gasOf(x, "6021 6020 6020 6000 6000 6003 6000 F1"), 21 + 2600 + 9);
        check.same("memory for both", gasOf(x, "6001 6000 6041 6000 6000 6003 6000 F1"), 21 + 2600 + 9);
        check.same("of length 0", gasOf(x, "6000 6F" + "FF".repeat(16) + "6000 6F" + "FF".repeat(16)
            + "6000 6003 6000 F1"), 21 + 2600);
        Check.code(x, 2, "6001 64FFFFFFFFFF 6000 6000 6000 6003 6000 F1");
        check.same("beyond 2^32", Check.run(x, 1, 2, 0, 199999), 0);
    }

    private static long stepsOf(ContractMachine x, String hex) {
        gasOf(x, hex);
        return x.told(3);
    }

    private static void allBut64th(Check check) {
        ContractMachine x = new ContractMachine();
        Check.code(x, 3, "5A" + TELL);
        String tell = "6020 6000 6000 6000 6000 6003 %s F1 60206000F3";
        // 21 for PUSHes, 3 of MEMORY, 2600; then 2 for GAS itself
        Check.code(x, 2, String.format(tell, "62FFFFFF"));
        Check.run(x, 1, 2, 0, 10000);
        long left = 10000 - 21 - 3 - 2600;
        check.same("all but a 64th", x.word(24), left - left / 64 - 2);
        Check.code(x, 2, String.format(tell, "7F" + "FF".repeat(32)));
        Check.run(x, 1, 2, 0, 10000);
        check.same("a that is far too much", x.word(24), left - left / 64 - 2);
        Check.code(x, 2, String.format(tell, "610100"));
        Check.run(x, 1, 2, 0, 10000);
        check.same("a", x.word(24), 254);
        check.same("what is left comes back", 10000 - x.told(0), 21 + 3 + 2600 + 2 + 6 + 3 + 6 + 6);
        Check.code(x, 2, String.format(tell, "6001"));
        Check.run(x, 1, 2, 0, 10000);
        check.same("too little for it", x.word(24), 0);
        check.same("it is gone", 10000 - x.told(0), 21 + 3 + 2600 + 1 + 6);
        check.same("of 63 nothing stays", gasForChild(x, 63), 63);
        check.same("of 64 one stays", gasForChild(x, 64), 63);
        check.same("of 127 one stays", gasForChild(x, 127), 126);
        check.same("of 128 two stay", gasForChild(x, 128), 126);
    }

    /** All gas of a call that FAILS is gone: what the caller has left tells how much went. */
    private static long gasForChild(ContractMachine x, int left) {
        Check.code(x, 4, "FE");
        Check.code(x, 2, "60006000600060006000 6004 61FFFF F1");
        Check.run(x, 1, 2, 0, 21 + 2600 + left);
        return left - x.told(0);
    }

    private static void stipend(Check check) {
        ContractMachine x = new ContractMachine();
        x.balance(2, 0, 50);
        Check.code(x, 3, "5A" + TELL);
        Check.code(x, 2, "6020 6000 6000 6000 6001 6003 6000 F1 60206000F3");
        Check.run(x, 1, 2, 0, 50000);
        check.same("2300 besides", x.word(24), 2298);
        Check.code(x, 2, "6020 6000 6000 6000 6001 6003 6107D0 F2 60206000F3");
        Check.run(x, 1, 2, 0, 50000);
        check.same("2300 besides", x.word(24), 4298);
        Check.code(x, 3, "6000600055");
        Check.code(x, 2, call("F1", 1, 3, 6) + TELL);
        Check.run(x, 1, 2, 0, 50000);
        check.same("SSTORE FAILS with 2300", x.word(24), 0);
        Check.code(x, 2, call("F1", 1, 3, 7) + TELL);
        Check.run(x, 1, 2, 0, 50000);
        check.same("and not with 2301", x.word(24), 1);
    }

    private static void tooPoor(Check check) {
        ContractMachine x = new ContractMachine();
        x.balance(2, 0, 4);
        Check.code(x, 3, "60016000F3");
        Check.code(x, 2, call("F1", 4, 3, 9999) + "3D 01" + TELL);
        Check.run(x, 1, 2, 0, 50000);
        check.same("enough", x.word(24), 2);
        for (String op : new String[] {"F1", "F2"}) {
            x.balance(2, 0, 4);
            Check.code(x, 2, call("F1", 0, 3, 9999) + "50" + call(op, 5, 3, 9999) + "600055 3D600155");
            Check.run(x, 1, 2, 0, 199999);
            check.same(op + " gives 0", x.stored(2, 0, 0, 0, 0, 3), 0);
            check.same(op + " RETURNED is none", x.stored(2, 0, 0, 0, 1, 3), 0);
            check.same(op + " BALANCE", x.balanceOf(2, 3), 4);
            long first = 21 + 2600 + 6 + 3 + 2;
            check.same(op + " gas comes back with 2300", 199999 - x.told(0),
                first + 21 + 100 + 9000 - 2300 + 3 + 2200 + 5 + 2200);
            check.same(op + " steps of no MESSAGE", x.told(3), 8 + 3 + 1 + 8 + 2 + 3 + 1);
        }
        Check.code(x, 2, call("F1", 0, 3, 9999) + TELL);
        x.balance(2, 0, 0);
        Check.run(x, 1, 2, 0, 50000);
        check.same("value 0 of nothing", x.word(24), 1);
    }

    /** 2 calls itself and adds 1 to what comes back; the last call that is possible gives 0. */
    private static void tooDeep(Check check) {
        ContractMachine x = new ContractMachine();
        Check.code(x, 2, "6020 6000 6000 6000 6000 30 5A F1 50 600051 6001 01" + TELL);
        check.same("run", Check.run(x, 1, 2, 0, 200000), 1);
        check.same("MESSAGES of DEPTH 0 to 24", x.word(24), 25);
        check.same("steps", x.told(3), 25 * 18);
        Check.code(x, 2, "6020 6000 6000 6000 30 5A FA 50 600051 6001 01" + TELL);
        check.same("run", Check.run(x, 1, 2, 0, 200000), 1);
        check.same("STATIC ones", x.word(24), 25);
        Check.code(x, 2, "6000 6000 6000 6000 6001 30 5A F1 3D 01 00");
        x.balance(2, 0, 1);
        check.same("with a value", Check.run(x, 1, 2, 0, 200000), 1);
    }

    private static void staticOnes(Check check) {
        Object[][] cases = {{"6000600055", 0}, {"6001600055", 0}, {"60006000A0", 0}, {"600060006000600060006000A4", 0},
            {"6009FF", 0}, {call("F1", 1, 4, 0), 0}, {call("F1", 0, 4, 0), 1}, {call("F2", 1, 4, 0), 1},
            {call("FA", 0, 4, 0), 1}, {call("F4", 0, 4, 0), 1}, {"600054", 1}, {"600931", 1},
            {call("F1", 0, 5, 9000) + "600057", 1}, {call("F4", 0, 5, 9000) + "600057", 1},
            {call("F2", 0, 5, 9000) + "600057", 1}, {call("F1", 0, 5, 9000) + "15 6000 57", 0}};
        for (Object[] one : cases) {
            ContractMachine x = new ContractMachine();
            x.balance(3, 0, 9);
            Check.code(x, 5, "6001600055");
            Check.code(x, 3, (String) one[0]);
            Check.code(x, 2, "6000 6000 6000 6000 6003 62 020000 FA" + TELL);
            check.same((String) one[0], Check.run(x, 1, 2, 0, 199999), 1);
            check.same((String) one[0], x.word(24), (Integer) one[1]);
            check.same("nothing changed", x.stored(3, 0, 0, 0, 0, 3) + x.stored(5, 0, 0, 0, 0, 3) + x.told(2), 0);
        }
    }

    private static void returned(Check check) {
        ContractMachine x = new ContractMachine();
        Check.code(x, 3, "63 A1A2A3A4 6000 52 6004 601C F3");
        Check.code(x, 4, "63 B1B2B3B4 6000 52 6003 601C FD");
        Check.code(x, 5, "FE");
        String to = "6002 6001 6000 6000 60%02X 613000 FA ";
        // 1 or 0 at 0x20, RETURNDATASIZE at 0x40, all of RETURNED at 0x60
        String rest = "602052 3D604052 3D600060603E 60806000F3";
        long[][] due = {{3, 0x00A1A20000000000L, 1, 4, 0xA1A2A3A400000000L},
            {4, 0x00B1B20000000000L, 0, 3, 0xB1B2B30000000000L}, {5, 0, 0, 0, 0}, {9, 0, 1, 0, 0}};
        for (long[] one : due) {
            Check.code(x, 2, String.format(to, one[0]) + rest);
            check.same("run", Check.run(x, 1, 2, 0, 199999), 1);
            check.same("room", x.word(0), one[1]);
            check.same("room", x.word(8), 0);
            check.same("1 or 0", x.word(56), one[2]);
            check.same("RETURNDATASIZE", x.word(88), one[3]);
            check.same("RETURNED", x.word(96), one[4]);
            Check.code(x, 2, String.format(to, 3) + "50" + String.format(to, one[0]) + rest);
            check.same("run", Check.run(x, 1, 2, 0, 199999), 1);
            check.same("RETURNED of the latest", x.word(88), one[3]);
            check.same("room keeps what came before", x.word(0), one[3] == 0 ? 0x00A1A20000000000L : one[1]);
        }
        Check.code(x, 2, "6001 6005 6000 6000 6003 613000 FA 50 60206000F3");
        Check.run(x, 1, 2, 0, 199999);
        check.same("room for one byte", x.word(0), 0x0000000000A10000L);
        Check.code(x, 2, "60FF6000 53 6040 6000 6000 6000 6003 613000 FA 50 60406000F3");
        Check.run(x, 1, 2, 0, 199999);
        check.same("less than there is room for", x.word(0), 0xA1A2A3A400000000L);
        Check.code(x, 6, String.format(to, 3) + "00");
        Check.code(x, 2, String.format(to, 6) + "50 3D" + TELL);
        Check.run(x, 1, 2, 0, 199999);
        check.same("what an inner one got is not given on", x.word(24), 0);
        Check.code(x, 6, "3D" + TELL);
        Check.code(x, 2, String.format(to, 3) + "50 6020600060006000 6006 613000 FA 50 60206000F3");
        Check.run(x, 1, 2, 0, 199999);
        check.same("none at first", x.word(24), 0);
    }

    private static void takenBack(Check check) {
        ContractMachine x = new ContractMachine();
        x.balance(2, 0, 20);
        Check.code(x, 3, "600931 600A54 6001600055 60006000A0 60016000 6000 6000 6001 6008 6000 F1 FE");
        Check.code(x, 2, call("F1", 5, 3, 0xFFFF) + "600055 6001600155");
        check.same("run", Check.run(x, 1, 2, 0, 199999), 1);
        check.same("it FAILED", x.stored(2, 0, 0, 0, 0, 3), 0);
        check.same("goes on", x.stored(2, 0, 0, 0, 1, 3), 1);
        check.same("VALUE", x.balanceOf(2, 3), 20);
        check.same("VALUE", x.balanceOf(3, 3), 0);
        check.same("VALUE of the inner one", x.balanceOf(8, 3), 0);
        check.same("STORAGE", x.stored(3, 0, 0, 0, 0, 3), 0);
        check.same("LOGS", x.told(2), 0);
        check.same("ADDRESSES 1, 2, 3", x.told(5), 3);
        check.same("places 0 and 1 of 2", x.told(6), 2);
        // what succeeded within what is taken back is taken back too
        Check.code(x, 4, "6001600055 60006000A0");
        Check.code(x, 3, call("F1", 0, 4, 0xFFFF) + "600054 60006000FD");
        Check.code(x, 2, call("F1", 5, 3, 0xFFFF));
        check.same("run", Check.run(x, 1, 2, 0, 199999), 1);
        check.same("STORAGE", x.stored(4, 0, 0, 0, 0, 3), 0);
        check.same("LOGS", x.told(2), 0);
        check.same("places", x.told(6), 0);
        check.same("ADDRESSES", x.told(5), 3);
    }

    private static void values(Check check) {
        ContractMachine x = new ContractMachine();
        x.balance(2, 1, 0);
        Check.code(x, 2, "6000600060006000 68 010000000000000000 6003 6000 F1" + TELL);
        Check.run(x, 1, 2, 0, 199999);
        check.same("2^64", x.word(24), 1);
        check.same("2^64", x.balanceOf(3, 2), 1);
        check.same("2^64", x.balanceOf(2, 2) | x.balanceOf(2, 3), 0);
        x.balance(2, 0, 3);
        Check.code(x, 2, "6000600060006000 6002 74 FF 0000000000000000000000000000000000000003 6000 F1" + TELL);
        Check.run(x, 1, 2, 0, 199999);
        check.same("the lowest 160 bits", x.balanceOf(3, 3), 2);
        Check.code(x, 2, "6000600060006000 6001 73 0100000000000000000000000000000000000003 6000 F1"
            + "73 0100000000000000000000000000000000000003 31" + TELL);
        Check.run(x, 1, 2, 0, 199999);
        check.same("another ADDRESS", x.word(24), 1);
        check.same("not this one", x.balanceOf(3, 3), 2);
        x.balance(2, 0, 3);
        Check.code(x, 2, call("F1", 3, 2, 0) + "47" + "01" + TELL);
        Check.run(x, 1, 2, 0, 0xFFFF);
        check.same("to itself", x.balanceOf(2, 3), 3);
    }

    private static void dataAndMemory(Check check) {
        ContractMachine x = new ContractMachine();
        // 3 answers how many bytes DATA has, then DATA from 1 on
        Check.code(x, 3, "36600052 6001 35 602052 60406000F3");
        Check.code(x, 2, "7F" + "1122334455667788".repeat(4) + "602052"
            + "6040 6040 6007 603D 6000 6003 61FFFF F1 50 60406040F3");
        Check.run(x, 1, 2, 0, 199999);
        check.same("CALLDATASIZE", x.word(24), 7);
        check.same("CALLDATALOAD", x.word(32), 0x7788000000000000L);
        // the inner one has MEMORY of its own
        Check.code(x, 3, "59 600052 7F" + "FF".repeat(32) + "610100 52" + "60206000F3");
        Check.code(x, 2, "60AA600052 6020 6020 6000 6000 6000 6003 61FFFF F1 50 610100 51 610120 52 59 604052"
            + "610140 6000F3");
        check.same("run", Check.run(x, 1, 2, 0, 199999), 1);
        check.same("its own stays", x.word(24), 0xAA);
        check.same("MSIZE was 0 there", x.word(56), 0);
        check.same("its new MEMORY is 0", x.word(0x120) | x.word(0x138), 0);
        check.same("MSIZE", x.word(0x58), 0x140);
    }
}
