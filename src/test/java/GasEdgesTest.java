import java.math.BigInteger;

/** Gas to the last unit, MEMORY, and what is TOUCHED (Terms; promises 8 and 9), on both sides of each edge. */
public final class GasEdgesTest {
    private static final String FAR = Code.ALL;

    private final Check check;

    private GasEdgesTest(Check check) {
        this.check = check;
    }

    public static void main(String[] args) {
        Check check = new Check();
        GasEdgesTest test = new GasEdgesTest(check);
        test.everyStep();
        test.bytesBegun();
        test.words();
        test.ends();
        test.nothingOfLength0();
        test.beyond();
        test.theDifference();
        test.access();
        test.touchedAtFirst();
        test.touchedAddresses();
        test.touchedPlaces();
        test.touchedIsTakenBack();
        test.lowest160Bits();
        check.finish("GasEdgesTest");
    }

    private static ContractMachine machine() {
        ContractMachine x = new ContractMachine();
        Check.code(x, 3, "60436000F3");
        x.balance(2, 0, 100);
        return x;
    }

    private static int run(ContractMachine x, String hex, int gas) {
        Check.code(x, 2, hex);
        return Check.run(x, 1, 2, 0, gas);
    }

    /** It succeeds with just this gas, leaving none, and FAILS with one less. */
    private void costs(String hex, int due) {
        ContractMachine x = machine();
        check.same(hex + " with " + due, run(x, hex, due), 1);
        check.same(hex + " leaves", x.told(0), 0);
        ContractMachine y = machine();
        if (due > 0) {
            check.same(hex + " with one less", run(y, hex, due - 1), 0);
        }
        ContractMachine z = machine();
        check.same(hex + " with one more", run(z, hex, due + 1), 1);
        check.same(hex + " leaves one", z.told(0), 1);
    }

    private void everyStep() {
        int[][] rows = {{3, 0x01, 0x03, 0x10, 0x11, 0x12, 0x13, 0x14, 0x15, 0x16, 0x17, 0x18, 0x19, 0x1A, 0x1B, 0x1C,
            0x1D, 0x35}, {5, 0x02, 0x04, 0x05, 0x06, 0x07, 0x0B, 0x47}, {8, 0x08, 0x09}, {10, 0x0A, 0x57},
            {2, 0x30, 0x32, 0x33, 0x34, 0x36, 0x38, 0x3A, 0x3D, 0x41, 0x42, 0x43, 0x44, 0x45, 0x46, 0x50, 0x58, 0x59,
                0x5A}, {1, 0x5B}, {0, 0x00}};
        String zeros = "6000".repeat(3);
        for (int[] row : rows) {
            for (int k = 1; k < row.length; k++) {
                costs(zeros + Code.bare(row[k]), 9 + row[0]);
            }
        }
        for (int op = 0x60; op <= 0x7F; op++) {
            costs(Code.bare(op) + "00".repeat(op - 0x5F), 3);
        }
        for (int op = 0x80; op <= 0x9F; op++) {
            costs("6000".repeat(17) + Code.bare(op), 51 + 3);
        }
        costs("6003 56 5B", 3 + 8 + 1);
        costs("6001 6005 57 5B", 6 + 10 + 1);
        costs(Code.step(0x54, 1), 3 + 2100);
        costs(Code.step(0x55, 1, 1), 6 + 22100);
        costs(Code.step(0xFF, 1), 3 + 5000 + 25000);
        costs(Code.step(0xFF, 3), 3 + 5000 + 2600);
        costs(Code.step(0xFF, 9), 3 + 5000 + 2600 + 25000);
    }

    /** 6 and 3 gas for each 32 bytes begun; 8 for each byte of a LOG, 375 for each TOPIC. */
    private void bytesBegun() {
        String grow = "6103FF51 50";
        int grown = 3 + 3 + 2 + 99 + 2;
        for (int n : new int[] {0, 1, 31, 32, 33, 63, 64, 65, 1024, 1025}) {
            int begun = (n + 31) / 32;
            costs(grow + Code.step(0x20, 0, n), grown + 6 + 30 + 6 * begun);
            costs(grow + Code.step(0x37, 0, 0, n), grown + 9 + 3 + 3 * begun);
            costs(grow + Code.step(0x39, 0, 0, n), grown + 9 + 3 + 3 * begun);
            costs(grow + Code.step(0x3C, 2, 0, 0, n), grown + 12 + 100 + 3 * begun);
            costs(grow + Code.step(0x3C, 9, 0, 0, n), grown + 12 + 2600 + 3 * begun);
            for (int k = 0; k <= 4; k++) {
                costs(grow + "6000".repeat(k) + Code.push(n) + "6000" + Code.bare(0xA0 + k),
                    grown + 3 * k + 6 + 375 + 375 * k + 8 * n);
            }
        }
        // 3 gives 67 bytes, with its PUSHes and MEMORY of three words
        int called = 18 + 2600 + 6 + 9 + 2;
        for (int n : new int[] {0, 1, 31, 32, 33, 63, 64, 65, 67}) {
            costs(Code.call(0xFA, 9999, 3, 0) + "50" + grow + Code.step(0x3E, 0, 0, n), called + grown + 9 + 3
                + 3 * ((n + 31) / 32), 9999);
        }
    }

    /** A call that keeps a 64th of its gas behind can be tried with more alone: what is used tells. */
    private void costs(String hex, int due, int more) {
        ContractMachine x = machine();
        check.same(hex + " succeeds", run(x, hex, due + more), 1);
        check.same(hex + " costs", due + more - x.told(0), due);
    }

    /** w of 32 bytes cost 3 w + w w / 512, rounded down. */
    private void words() {
        int[] words = {1, 2, 3, 16, 22, 23, 31, 32, 33, 45, 46, 511, 512, 513, 723, 724, 725, 3000, 9000};
        int[] costs = {3, 6, 9, 48, 66, 70, 94, 98, 101, 138, 142, 2043, 2048, 2053, 3189, 3195, 3201, 26578, 185203};
        for (int k = 0; k < words.length; k++) {
            costs(Code.step(0x51, 32 * words[k] - 32), 3 + 3 + costs[k]);
            costs(Code.step(0x51, 32 * words[k] - 63 + (words[k] == 1 ? 31 : 0)), 3 + 3 + costs[k]);
            costs(Code.step(0x53, 32 * words[k] - 1, 0), 6 + 3 + costs[k]);
            costs(Code.step(0x53, 32 * words[k] - 32, 0), 6 + 3 + costs[k]);
        }
    }

    private static String uses(int kind, String from, String length) {
        switch (kind) {
            case 0: return length + from + "20";
            case 1: return length + "6000" + from + "37";
            case 2: return length + "6000" + from + "39";
            case 3: return length + "6000" + from + "6002 3C";
            case 4: return length + from + "A0";
            case 5: return "6000 6000" + length + from + "6000 6003 6000 F1";
            case 6: return length + from + "6000 6000 6000 6003 6000 F1";
            case 7: return "6000 6000" + length + from + "6000 6003 6000 F2";
            case 8: return length + from + "6000 6000 6000 6003 6000 F2";
            case 9: return "6000 6000" + length + from + "6003 6000 F4";
            case 10: return length + from + "6000 6000 6003 6000 F4";
            case 11: return "6000 6000" + length + from + "6003 6000 FA";
            case 12: return length + from + "6000 6000 6003 6000 FA";
            case 13: return length + from + "F3";
            case 14: return length + from + "FD";
            default: return length + "6000" + from + "3E";
        }
    }

    /** What is used makes MEMORY as long as is needed, and no longer. */
    private void ends() {
        int[][] cases = {{0, 1, 32}, {0, 31, 32}, {0, 32, 32}, {0, 33, 64}, {1, 31, 32}, {1, 32, 64}, {31, 1, 32},
            {31, 2, 64}, {32, 1, 64}, {32, 32, 64}, {32, 33, 96}, {95, 1, 96}, {95, 2, 128}, {96, 1, 128}};
        for (int[] one : cases) {
            for (int kind = 0; kind <= 12; kind++) {
                String use = uses(kind, Code.push(one[0]), Code.push(one[1]));
                size(use + " 59" + Code.TELL, one[2]);
            }
            if (one[1] <= 67) {
                size(Code.call(0xFA, 9999, 3, 0) + uses(15, Code.push(one[0]), Code.push(one[1])) + " 59" + Code.TELL,
                    one[2]);
            }
        }
        for (int k = 0; k < 70; k++) {
            int words = (k + 63) / 32;
            size(Code.step(0x51, k) + "59" + Code.TELL, 32 * words);
            size(Code.step(0x52, k, 1) + "59" + Code.TELL, 32 * words);
            size(Code.step(0x53, k, 1) + "59" + Code.TELL, 32 * (k / 32 + 1));
        }
        size("59" + Code.TELL, 0);
    }

    private void size(String hex, int due) {
        ContractMachine x = machine();
        check.same(hex + " succeeds", run(x, hex, 50000), 1);
        check.same(hex + " tells MSIZE", x.word(24), due);
    }

    /** Of length 0 nothing is used, wherever it begins. */
    private void nothingOfLength0() {
        for (String from : new String[] {"6000", "6020", "63FFFFFFFF", "640100000000", FAR}) {
            for (int kind = 0; kind <= 12; kind++) {
                size(uses(kind, from, "6000") + " 59" + Code.TELL, 0);
            }
            size(Code.call(0xFA, 9999, 3, 0) + uses(15, from, "6000") + " 59" + Code.TELL, 0);
            costs("6000" + from + "F3", 6);
            ContractMachine x = machine();
            check.same("REVERT of length 0", run(x, "6000" + from + "FD", 6), 2);
            check.same("REVERT of length 0 leaves", x.told(0), 0);
        }
    }

    /** Beyond 2^32 bytes, and long before, gas is below; nothing wraps. */
    private void beyond() {
        BigInteger one = BigInteger.ONE;
        BigInteger all = one.shiftLeft(256).subtract(one);
        BigInteger[] from = {one.shiftLeft(20), one.shiftLeft(31), one.shiftLeft(32).subtract(BigInteger.valueOf(2)),
            one.shiftLeft(32).subtract(one), one.shiftLeft(32), one.shiftLeft(63).subtract(one), one.shiftLeft(63),
            one.shiftLeft(64).subtract(one), one.shiftLeft(64), one.shiftLeft(128), one.shiftLeft(255), all};
        for (BigInteger far : from) {
            for (int kind = 0; kind <= 14; kind++) {
                fails(uses(kind, Code.push32(far), "6001"));
                fails(uses(kind, "6001", Code.push32(far)));
                fails(uses(kind, Code.push32(far), Code.push32(far)));
                fails(uses(kind, Code.push32(far), Code.push32(all.subtract(far).add(one))));
            }
            fails(Code.call(0xFA, 9999, 3, 0) + uses(15, Code.push32(far), "6001"));
            fails(Code.push32(far) + "51");
            fails("6001" + Code.push32(far) + "52");
            fails("6001" + Code.push32(far) + "53");
        }
        fails(Code.push32(all.subtract(BigInteger.valueOf(31))) + "51");
        fails("6001" + Code.push32(all.subtract(BigInteger.valueOf(31))) + "52");
    }

    private void fails(String hex) {
        ContractMachine x = machine();
        check.same(hex + " with all gas", run(x, hex, 200000), 0);
        check.same(hex + " leaves", x.told(0), 0);
    }

    /** MEMORY that is there costs nothing more, and what is added the difference alone. */
    private void theDifference() {
        costs("600051 600051", 6 + 6 + 3);
        costs("600051 600151", 6 + 6 + 6);
        costs("602051 600051 600151", 9 + 9 + 6);
        costs("6102A051 6102C051", 6 + 6 + 70);
        costs("6102C051 6102A051", 6 + 6 + 70);
        costs("6103E051" + Code.step(0x20, 0, 1024), 3 + 3 + 98 + 6 + 30 + 192);
        costs("6103E051" + Code.step(0x20, 1, 1024), 3 + 3 + 101 + 6 + 30 + 192);
        costs("6103E051" + Code.step(0xF3, 0, 1024), 3 + 3 + 98 + 6);
        costs("6103E051" + Code.step(0xF3, 0, 1025), 3 + 3 + 101 + 6);
        // DATA and room: the longer of both is paid for, once
        costs(Code.call(0xF1, 0, 3, 0, 0, 32, 0, 64), 21 + 2600 + 6, 0);
        costs(Code.call(0xF1, 0, 3, 0, 0, 64, 0, 32), 21 + 2600 + 6, 0);
        costs(Code.call(0xF1, 0, 3, 0, 64, 33, 0, 64), 21 + 2600 + 12, 0);
        costs(Code.call(0xF1, 0, 3, 0, 0, 64, 64, 33), 21 + 2600 + 12, 0);
    }

    /** ACCESS costs 2600, then 100, by every step that has it. */
    private void access() {
        for (int op : new int[] {0x31, 0x3B, 0x3F}) {
            costs(Code.step(op, 9), 3 + 2600);
            costs(Code.step(op, 9) + Code.step(op, 9), 6 + 2700);
            costs(Code.step(op, 1), 3 + 100);
            costs(Code.step(op, 2), 3 + 100);
        }
        costs(Code.step(0x3C, 9, 0, 0, 0), 12 + 2600);
        costs(Code.step(0x3C, 9, 0, 0, 0).repeat(2), 24 + 2700);
        costs(Code.step(0x3C, 1, 0, 0, 0), 12 + 100);
        for (int op : new int[] {0xF1, 0xF2, 0xF4, 0xFA}) {
            int pushed = op == 0xF1 || op == 0xF2 ? 21 : 18;
            costs(Code.call(op, 0, 9, 0), pushed + 2600);
            costs(Code.call(op, 0, 9, 0).repeat(2), 2 * pushed + 2700);
            costs(Code.call(op, 0, 1, 0), pushed + 100);
        }
    }

    /** At the beginning of a RUN the SENDER and the ADDRESS it goes to are TOUCHED, no other, and no place. */
    private void touchedAtFirst() {
        ContractMachine x = machine();
        Check.code(x, 2, "");
        check.same("from 1 to 2", Check.run(x, 1, 2, 0, 0), 1);
        check.same("both", x.told(5), 2);
        check.same("no place", x.told(6), 0);
        check.same("from 2 to 2", Check.run(x, 2, 2, 0, 0), 1);
        check.same("it is one", x.told(5), 1);
        check.same("FAILED", run(x, "FE", 10), 0);
        check.same("both even then", x.told(5), 2);
        check.same("by REVERT", run(x, "60006000FD", 10), 2);
        check.same("both even then", x.told(5), 2);
        x.environment(1, 7);
        costs(Code.step(0x31, 0), 3 + 2600);
        check.same("coinbase is not", run(x, Code.step(0x31, 7), 2602), 0);
        check.same("coinbase is not", run(x, Code.step(0x31, 7), 2603), 1);
    }

    private void touchedAddresses() {
        int[] looks = {0x31, 0x3B, 0x3F};
        for (int op : looks) {
            touches(Code.step(op, 9) + "50", 9);
            touches(Code.step(op, 2) + "50", 2);
        }
        touches(Code.step(0x3C, 9, 0, 0, 0), 9);
        touches(Code.step(0x3C, 9, 0, 0, 40), 9);
        for (int op : new int[] {0xF1, 0xF2, 0xF4, 0xFA}) {
            touches(Code.call(op, 0, 9, 0) + "50", 9);
            touches(Code.call(op, 0, 3, 0) + "50", 3);
        }
        touches(Code.call(0xF1, 0, 9, 101) + "50", 9);
        touches(Code.call(0xF2, 0, 9, 101) + "50", 9);
        ContractMachine x = machine();
        check.same("SELFDESTRUCT", run(x, Code.step(0xFF, 9), 90000), 1);
        check.same("SELFDESTRUCT touches", x.told(5), 3);
        check.same("SELFDESTRUCT", run(x, Code.step(0xFF, 1), 90000), 1);
        check.same("SELFDESTRUCT to one that was", x.told(5), 2);
        // in an inner MESSAGE: what 4 touched is TOUCHED here
        ContractMachine y = machine();
        Check.code(y, 4, Code.step(0x31, 9));
        check.same("run", run(y, Code.call(0xF1, 9000, 4, 0) + Code.step(0x31, 9), 90000), 1);
        check.same("gas", 90000 - y.told(0), 21 + 2600 + 2603 + 103);
        check.same("1 2 4 9", y.told(5), 4);
    }

    /** Behind these steps ACCESS to the ADDRESS costs 100, and it is told among the TOUCHED ones. */
    private void touches(String hex, int address) {
        ContractMachine x = machine();
        check.same(hex, run(x, hex + "5A" + Code.step(0x31, address) + "50 5A 9003" + Code.TELL, 90000), 1);
        check.same(hex + " then ACCESS", x.word(24), 3 + 100 + 2 + 2);
        check.same(hex + " TOUCHED", x.told(5), address == 2 ? 2 : 3);
    }

    /** Places are of ADDRESSES: the same NUMBER of another is another place. */
    private void touchedPlaces() {
        costs(Code.step(0x54, 1), 3 + 2100);
        costs(Code.step(0x54, 1) + Code.step(0x54, 1), 6 + 2200);
        costs(Code.step(0x54, 1) + Code.step(0x54, 2), 6 + 4200);
        costs(Code.step(0x55, 1, 1) + Code.step(0x54, 1), 6 + 22100 + 3 + 100);
        costs(Code.step(0x54, 1) + Code.step(0x55, 1, 1), 3 + 2100 + 6 + 20000);
        costs(Code.step(0x54, 1) + Code.step(0x55, 2, 1), 3 + 2100 + 6 + 22100);
        String high = Code.push32(BigInteger.ONE.shiftLeft(255).or(BigInteger.ONE));
        costs(Code.step(0x54, 1) + high + "54", 6 + 4200);
        ContractMachine x = machine();
        Check.code(x, 4, Code.step(0x54, 1));
        int[] ops = {0xF1, 0xF2, 0xF4, 0xFA};
        int[] inner = {2100, 100, 100, 2100};
        for (int k = 0; k < 4; k++) {
            int pushed = k < 2 ? 21 : 18;
            run(x, Code.step(0x54, 1) + Code.call(ops[k], 9000, 4, 0) + Code.step(0x54, 1), 90000);
            check.same("another's place", 90000 - x.told(0), 3 + 2100 + pushed + 2600 + 3 + inner[k] + 103);
            check.same("places", x.told(6), inner[k] == 100 ? 1 : 2);
        }
        run(x, Code.step(0x54, 1), 9000);
        check.same("of this RUN alone", x.told(0), 9000 - 2103);
    }

    private void touchedIsTakenBack() {
        for (String end : new String[] {"00", "60006000FD", "FE"}) {
            boolean stays = end.equals("00");
            ContractMachine x = machine();
            Check.code(x, 4, Code.step(0x31, 9) + Code.step(0x54, 1) + end);
            // 5 lets 4 use its own STORAGE
            Check.code(x, 5, Code.call(0xF4, 9000, 4, 0) + "5A" + Code.step(0x31, 9) + "50 5A 9003 600052"
                + "5A" + Code.step(0x54, 1) + "50 5A 9003 602052 60406000F3");
            Check.run(x, 1, 5, 0, 90000);
            check.same("ended by " + end + ", ACCESS", x.word(24), (stays ? 100 : 2600) + 3 + 2 + 2);
            check.same("ended by " + end + ", SLOAD", x.word(56), (stays ? 100 : 2100) + 3 + 2 + 2);
        }
    }

    /** ADDRESSES: what stands above the lowest 160 bits of a NUMBER tells nothing, bit 159 does. */
    private void lowest160Bits() {
        BigInteger above = BigInteger.ONE.shiftLeft(160);
        for (BigInteger more : new BigInteger[] {above, BigInteger.ONE.shiftLeft(255), above.shiftRight(1)}) {
            boolean isSame = more.bitLength() > 160;
            String three = Code.push32(more.or(BigInteger.valueOf(3)));
            String[] looks = {three + "31 50", three + "3B 50", three + "3F 50", "6000 6000 6000" + three + "3C",
                "6000 6000 6000 6000 6000" + three + "6000 F1 50", "6000 6000 6000 6000 6000" + three + "6000 F2 50",
                "6000 6000 6000 6000" + three + "6000 F4 50", "6000 6000 6000 6000" + three + "6000 FA 50"};
            for (String look : looks) {
                ContractMachine x = machine();
                run(x, look + Code.step(0x31, 3) + look, 90000);
                check.same(look + " TOUCHED", x.told(5), isSame ? 3 : 4);
            }
            ContractMachine x = machine();
            run(x, three + "3B" + Code.TELL, 90000);
            check.same("EXTCODESIZE", x.word(24), isSame ? 5 : 0);
            run(x, "6005 6000 6000" + three + "3C 60206000F3", 90000);
            check.same("EXTCODECOPY", x.word(0), isSame ? 0x60436000F3000000L : 0);
            for (String call : new String[] {"6000" + three + "61FFFF F1", "6000" + three + "61FFFF F2",
                three + "61FFFF F4", three + "61FFFF FA"}) {
                run(x, "6000 6000 6000 6000" + call + "50 3D" + Code.TELL, 90000);
                check.same(call + " does the CODE of 3", x.word(24), isSame ? 67 : 0);
            }
            run(x, three + "FF", 90000);
            check.same("SELFDESTRUCT", x.balanceOf(3, 3), isSame ? 100 : 0);
            x.balance(2, 0, 50);
            run(x, Code.push32(more.or(BigInteger.TWO)) + "FF", 90000);
            check.same("SELFDESTRUCT to itself", 90000 - x.told(0), isSame ? 3 + 5000 : 3 + 5000 + 2600 + 25000);
        }
    }
}
