/** SLOAD, SSTORE, REFUND and SELFDESTRUCT (promises 6, 8, 9, 14), by hand from the document. */
public final class StorageTest {
    private StorageTest() {
    }

    public static void main(String[] args) {
        Check check = new Check();
        sequences(check);
        atLeast2300(check);
        loads(check);
        acrossRuns(check);
        takenBack(check);
        destroyed(check);
        destroyedTwice(check);
        destroyCosts(check);
        check.finish("StorageTest");
    }

    private static String put(int v) {
        return String.format("60%02X600055", v);
    }

    /** What SSTOREs at one place cost and give back: original, what is put, gas without PUSH, REFUND. */
    private static void sequences(Check check) {
        Object[][] cases = {
            {0, new int[] {0}, 2200, 0}, {0, new int[] {1}, 22100, 0}, {1, new int[] {0}, 5000, 15000},
            {1, new int[] {2}, 5000, 0}, {1, new int[] {1}, 2200, 0}, {0, new int[] {1, 0}, 22200, 19900},
            {0, new int[] {1, 2}, 22200, 0}, {0, new int[] {1, 1}, 22200, 0}, {1, new int[] {0, 0}, 5100, 15000},
            {1, new int[] {0, 1}, 5100, 2800}, {1, new int[] {0, 2}, 5100, 0}, {1, new int[] {2, 0}, 5100, 15000},
            {1, new int[] {2, 3}, 5100, 0}, {1, new int[] {2, 1}, 5100, 2800}, {1, new int[] {2, 2}, 5100, 0},
            {1, new int[] {1, 0}, 5100, 15000}, {1, new int[] {1, 2}, 5100, 0}, {0, new int[] {0, 1}, 22200, 0},
            {0, new int[] {1, 0, 1}, 42200, 19900}, {1, new int[] {0, 1, 0}, 8000, 17800},
            {1, new int[] {0, 2, 0}, 5200, 15000}, {1, new int[] {0, 2, 1}, 5200, 2800},
            {0, new int[] {1, 2, 0}, 22300, 19900}};
        for (Object[] one : cases) {
            ContractMachine x = new ContractMachine();
            StringBuilder code = new StringBuilder();
            for (int v : (int[]) one[1]) {
                code.append(put(v));
            }
            x.store(2, 0, 0, (Integer) one[0]);
            Check.code(x, 2, code.toString());
            String what = one[0] + " and " + code;
            check.same(what, Check.run(x, 1, 2, 0, 100000), 1);
            check.same(what + " gas", 100000 - x.told(0) - 6 * ((int[]) one[1]).length, (Integer) one[2]);
            check.same(what + " REFUND", x.told(1), (Integer) one[3]);
            check.same(what + " places", x.told(6), 1);
        }
    }

    private static void atLeast2300(Check check) {
        ContractMachine x = new ContractMachine();
        Check.code(x, 2, "600054 50" + put(0));
        int before = 3 + 2100 + 2 + 6;
        check.same("2300 gas", Check.run(x, 1, 2, 0, before + 2300), 0);
        check.same("2301 gas", Check.run(x, 1, 2, 0, before + 2301), 1);
        check.same("left", x.told(0), 2201);
    }

    private static void loads(Check check) {
        ContractMachine x = new ContractMachine();
        x.store(2, 5, 1, 2);
        Check.code(x, 2, "600554 600052 600554 602052 600654 604052 60606000F3");
        Check.run(x, 1, 2, 0, 9999);
        check.same("SLOAD", x.word(16), 1);
        check.same("SLOAD", x.word(24), 2);
        check.same("again", x.word(56), 2);
        check.same("of 0", x.word(88), 0);
        check.same("gas", 9999 - x.told(0), 3 * 3 + 2100 + 100 + 2100 + 3 * 6 + 9 + 6);
        check.same("places", x.told(6), 2);
        Check.code(x, 2, put(9) + "600054 600055");
        check.same("SLOAD behind SSTORE", Check.run(x, 1, 2, 0, 99999), 1);
        check.same("gas", 99999 - x.told(0), 6 + 22100 + 3 + 100 + 3 + 100);
    }

    private static void acrossRuns(Check check) {
        ContractMachine x = new ContractMachine();
        Check.code(x, 2, put(1));
        Check.run(x, 1, 2, 0, 99999);
        Check.code(x, 2, put(0));
        Check.run(x, 1, 2, 0, 99999);
        check.same("what was there when the RUN began", x.told(1), 15000);
        check.same("gas", 99999 - x.told(0), 6 + 5000);
        Check.run(x, 1, 2, 0, 99999);
        check.same("and is no more", x.told(1), 0);
        check.same("gas", 99999 - x.told(0), 6 + 2200);
    }

    private static void takenBack(Check check) {
        ContractMachine x = new ContractMachine();
        x.store(3, 0, 0, 1);
        // 3 clears its place and goes on as DATA tells
        Check.code(x, 3, put(0) + "600035 600B57 00 5B 60006000FD");
        String call = "6000 6000 6020 6000 6000 6003 61FFFF F1";
        Check.code(x, 2, "6001600052" + call);
        Check.run(x, 1, 2, 0, 199999);
        check.same("REFUND is taken back", x.told(1), 0);
        check.same("TOUCHED is taken back", x.told(6), 0);
        check.same("but not the ADDRESS that was called", x.told(5), 3);
        check.same("STORAGE is taken back", x.stored(3, 0, 0, 0, 0, 3), 1);
        Check.code(x, 2, call);
        Check.run(x, 1, 2, 0, 199999);
        check.same("REFUND stays", x.told(1), 15000);
        check.same("TOUCHED stays", x.told(6), 1);
        check.same("STORAGE stays", x.stored(3, 0, 0, 0, 0, 3), 0);
    }

    private static void destroyed(Check check) {
        ContractMachine x = new ContractMachine();
        x.balance(2, 3, 4);
        x.store(2, 7, 0, 1);
        Check.code(x, 2, "6009FF FE");
        check.same("SELFDESTRUCT", Check.run(x, 1, 2, 0, 50000), 1);
        check.same("gas", 50000 - x.told(0), 3 + 5000 + 2600 + 25000);
        check.same("REFUND", x.told(1), 24000);
        check.same("steps", x.told(3), 2);
        check.same("TOUCHED", x.told(5), 3);
        check.same("the BALANCE goes", x.balanceOf(9, 2), 3);
        check.same("the BALANCE goes", x.balanceOf(9, 3), 4);
        check.same("no BALANCE", x.balanceOf(2, 3) | x.balanceOf(2, 2), 0);
        check.same("no CODE", x.codeSize(2), 0);
        check.same("no STORAGE", x.stored(2, 0, 0, 0, 7, 3), 0);
        x.balance(2, 0, 6);
        Check.code(x, 2, "30FF");
        Check.run(x, 1, 2, 0, 50000);
        check.same("to itself it is gone", x.balanceOf(2, 3), 0);
        check.same("gas", 50000 - x.told(0), 2 + 5000);
        x.balance(2, 0, 6);
        Check.code(x, 2, "6009FF");
        check.same("too little gas", Check.run(x, 1, 2, 0, 7602), 0);
        check.same("stays", x.codeSize(2), 3);
        check.same("enough", Check.run(x, 1, 2, 0, 7603), 1);
    }

    private static void destroyedTwice(Check check) {
        ContractMachine x = new ContractMachine();
        x.balance(2, 0, 10);
        x.balance(3, 0, 5);
        x.store(3, 1, 0, 8);
        Check.code(x, 3, "6009FF");
        String call = "6000 6000 6000 6000 6001 6003 61FFFF F1 50";
        Check.code(x, 2, call + call + "600331 600052 60033B 602052 60406000F3");
        check.same("twice", Check.run(x, 1, 2, 0, 199999), 1);
        check.same("REFUND once", x.told(1), 24000);
        check.same("BALANCE within the RUN", x.word(24), 0);
        check.same("CODE within the RUN", x.word(56), 3);
        check.same("what came", x.balanceOf(9, 3), 7);
        check.same("CODE at its end", x.codeSize(3), 0);
        check.same("STORAGE at its end", x.stored(3, 0, 0, 0, 1, 3), 0);
        Check.code(x, 3, "6009FF");
        Check.code(x, 2, call + "6000 6000 6000 6000 6001 6003 6000 F1 60006000FD");
        check.same("by REVERT", Check.run(x, 1, 2, 0, 199999), 2);
        check.same("REFUND", x.told(1), 0);
        check.same("CODE stays", x.codeSize(3), 3);
        Check.code(x, 4, "FE");
        Check.code(x, 2, call + "6000 6000 6000 6000 6000 6004 61FFFF F1");
        check.same("one that FAILS behind it", Check.run(x, 1, 2, 0, 199999), 1);
        check.same("leaves it DESTROYED", x.codeSize(3), 0);
        check.same("REFUND", x.told(1), 24000);
        Check.code(x, 3, "6009FF");
        Check.code(x, 4, "6000 6000 6000 6000 6000 6003 61FFFF F1 60006000FD");
        Check.code(x, 2, "6000 6000 6000 6000 6000 6004 61FFFF F1");
        check.same("DESTROYED within what is taken back", Check.run(x, 1, 2, 0, 199999), 1);
        check.same("CODE stays", x.codeSize(3), 3);
        check.same("REFUND", x.told(1), 0);
        x.balance(3, 0, 5);
        Check.code(x, 3, "30FF");
        Check.code(x, 2, "6000 6000 6000 6000 6000 6003 61FFFF F1 50 600331 600052 60206000F3");
        check.same("to itself", Check.run(x, 1, 2, 0, 199999), 1);
        check.same("it is gone at once", x.word(24), 0);
        x.balance(3, 0, 5);
        Check.code(x, 3, "30FF");
        Check.code(x, 2, "6000 6000 6000 6000 6000 6004 61FFFF F1");
        check.same("to itself, taken back", Check.run(x, 1, 2, 0, 199999), 1);
        check.same("its BALANCE stays", x.balanceOf(3, 3), 5);
        // what a DESTROYED one gets afterwards is lost: with DATA it only takes what comes
        x.balance(2, 0, 10);
        Check.code(x, 3, "36 600757 6009FF 5B");
        Check.code(x, 2, call + "6000 6000 6001 6000 6001 6003 61FFFF F1");
        Check.run(x, 1, 2, 0, 199999);
        check.same("what was sent", x.balanceOf(2, 3), 8);
        check.same("sent behind its end", x.balanceOf(3, 3) + x.codeSize(3), 0);
    }

    private static void destroyCosts(Check check) {
        ContractMachine x = new ContractMachine();
        Check.code(x, 2, "6009FF");
        Check.run(x, 1, 2, 0, 50000);
        check.same("BALANCE 0 to a DEAD one", 50000 - x.told(0), 3 + 5000 + 2600);
        check.same("it stays DEAD", x.balanceOf(9, 3), 0);
        x.balance(2, 0, 1);
        Check.code(x, 2, "6001FF");
        Check.run(x, 1, 2, 0, 50000);
        check.same("to a DEAD one that is TOUCHED", 50000 - x.told(0), 3 + 5000 + 25000);
        x.balance(2, 0, 1);
        Check.code(x, 2, "6001FF");
        Check.run(x, 1, 2, 0, 50000);
        check.same("to one that is not DEAD", 50000 - x.told(0), 3 + 5000);
        x.balance(2, 0, 1);
        x.store(8, 0, 0, 1);
        Check.code(x, 2, "6008FF");
        Check.run(x, 1, 2, 0, 50000);
        check.same("STORAGE alone is DEAD", 50000 - x.told(0), 3 + 5000 + 2600 + 25000);
    }
}
