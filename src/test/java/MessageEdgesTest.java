import java.math.BigInteger;
import java.util.NoSuchElementException;

/** How a MESSAGE ends, what FAILS, and what is taken back (Terms; promises 8 and 9), on both sides of each edge. */
public final class MessageEdgesTest {
    /** For each step: its byte, how many NUMBERS it takes, and how many it gives. */
    private static final int[][] STEPS = {
        {0x00, 0, 0}, {0x01, 2, 1}, {0x02, 2, 1}, {0x03, 2, 1}, {0x04, 2, 1}, {0x05, 2, 1}, {0x06, 2, 1},
        {0x07, 2, 1}, {0x08, 3, 1}, {0x09, 3, 1}, {0x0A, 2, 1}, {0x0B, 2, 1}, {0x10, 2, 1}, {0x11, 2, 1},
        {0x12, 2, 1}, {0x13, 2, 1}, {0x14, 2, 1}, {0x15, 1, 1}, {0x16, 2, 1}, {0x17, 2, 1}, {0x18, 2, 1},
        {0x19, 1, 1}, {0x1A, 2, 1}, {0x1B, 2, 1}, {0x1C, 2, 1}, {0x1D, 2, 1}, {0x20, 2, 1}, {0x30, 0, 1},
        {0x31, 1, 1}, {0x32, 0, 1}, {0x33, 0, 1}, {0x34, 0, 1}, {0x35, 1, 1}, {0x36, 0, 1}, {0x37, 3, 0},
        {0x38, 0, 1}, {0x39, 3, 0}, {0x3A, 0, 1}, {0x3B, 1, 1}, {0x3C, 4, 0}, {0x3D, 0, 1}, {0x3E, 3, 0},
        {0x3F, 1, 1}, {0x41, 0, 1}, {0x42, 0, 1}, {0x43, 0, 1}, {0x44, 0, 1}, {0x45, 0, 1}, {0x46, 0, 1},
        {0x47, 0, 1}, {0x50, 1, 0}, {0x51, 1, 1}, {0x52, 2, 0}, {0x53, 2, 0}, {0x54, 1, 1}, {0x55, 2, 0},
        {0x57, 2, 0}, {0x58, 0, 1}, {0x59, 0, 1}, {0x5A, 0, 1}, {0x5B, 0, 0}, {0xA0, 2, 0}, {0xA1, 3, 0},
        {0xA2, 4, 0}, {0xA3, 5, 0}, {0xA4, 6, 0}, {0xF1, 7, 1}, {0xF2, 7, 1}, {0xF3, 2, 0}, {0xF4, 6, 1},
        {0xFA, 6, 1}, {0xFD, 2, 0}, {0xFF, 1, 0}};

    private final Check check;

    private MessageEdgesTest(Check check) {
        this.check = check;
    }

    public static void main(String[] args) {
        Check check = new Check();
        MessageEdgesTest test = new MessageEdgesTest(check);
        test.endings();
        test.endingsWithin();
        test.takenBackOrNot();
        test.whatWasBeforeStays();
        test.manyChangesTakenBack();
        test.tooFewAndTooMany();
        test.pushes();
        test.jumpsIntoPushes();
        test.jumpsBeyond();
        test.otherBytes();
        test.staticOrNot();
        test.stepsThatAreBegun();
        test.results();
        check.finish("MessageEdgesTest");
    }

    private static int run(ContractMachine x, String hex, int gas) {
        Check.code(x, 2, hex);
        return Check.run(x, 1, 2, 0, gas);
    }

    /** By STOP, also behind the CODE, RETURN, SELFDESTRUCT it succeeds; REVERT keeps the gas; FAILING does not. */
    private void endings() {
        ContractMachine x = new ContractMachine();
        ends(x, "6001 50", 1, 1000 - 5, 3);
        ends(x, "6001 50 00", 1, 1000 - 5, 3);
        ends(x, "6001 50 00 FE", 1, 1000 - 5, 3);
        ends(x, "6001 50 60006000 F3 FE", 1, 1000 - 11, 5);
        ends(x, "6001 50 60006000 FD", 2, 1000 - 11, 5);
        ends(x, "6001 50 FE", 0, 0, 3);
        ends(x, "6001 50 0C", 0, 0, 3);
        ends(x, "6001 50 50", 0, 0, 3);
        ends(x, "6001 50 600056", 0, 0, 4);
        ends(x, "", 1, 1000, 1);
        check.same("SELFDESTRUCT", run(x, "6001FF FE", 5003), 1);
        check.same("SELFDESTRUCT leaves", x.told(0), 0);
        check.same("SELFDESTRUCT's steps", x.told(3), 2);
    }

    private void ends(ContractMachine x, String hex, int how, int gas, int steps) {
        check.same(hex + " ends", run(x, hex, 1000), how);
        check.same(hex + " leaves", x.told(0), gas);
        check.same(hex + " begins steps", x.told(3), steps);
        check.same(hex + " gives", x.told(4), 0);
    }

    private void endingsWithin() {
        within("6001 50", 1, 5, 0);
        within("6001 50 00 FE", 1, 5, 0);
        within("6001 50 60006000F3", 1, 11, 0);
        within("6001 50 60206000F3", 1, 14, 32);
        within("6001FF", 1, 5003, 0);
        within("6001 50 60006000FD", 0, 11, 0);
        within("6001 50 60206000FD", 0, 14, 32);
        within("6001 50 FE", 0, 9000, 0);
        within("60206000F3 FE", 1, 9, 32);
        within("5B 600056", 0, 9000, 0);
    }

    /** A MESSAGE with 9000 gas: 1 or 0, what it costs, and how many bytes it gives. */
    private void within(String hex, int succeeds, int gas, int bytes) {
        ContractMachine x = new ContractMachine();
        Check.code(x, 3, hex);
        check.same(hex, run(x, Code.call(0xF1, 9000, 3, 0) + "600052 3D602052 60406000F3", 50000), 1);
        check.same(hex + " gives 1 or 0", x.word(24), succeeds);
        check.same(hex + " RETURNED", x.word(56), bytes);
        check.same(hex + " costs", 50000 - x.told(0), 21 + 2600 + gas + 6 + 8 + 6 + 6);
    }

    /** What 3 does in each of the things that REVERT and FAILING take back, and that a STOP lets stay. */
    private void takenBackOrNot() {
        for (String end : new String[] {"", "00", "60006000F3", "60006000FD", "FE", "50", "600056"}) {
            boolean stays = end.isEmpty() || end.equals("00") || end.endsWith("F3");
            ContractMachine x = new ContractMachine();
            x.balance(2, 0, 10);
            x.store(3, 1, 0, 7);
            Check.code(x, 4, Code.step(0xFF, 5));
            Check.code(x, 3, Code.step(0x55, 1, 0) + Code.step(0xA0, 0, 3) + Code.step(0x31, 9) + "50"
                + Code.call(0xF1, 0, 8, 2) + "50" + Code.call(0xF1, 9000, 4, 0) + "50" + end);
            String what = "ended by " + (end.isEmpty() ? "the end of the CODE" : end) + ": ";
            check.same(what + "run", run(x, Code.call(0xF1, 90000, 3, 5) + Code.step(0x54, 2) + Code.TELL, 200000), 1);
            check.same(what + "VALUE of the one that called", x.balanceOf(2, 3), stays ? 5 : 10);
            check.same(what + "VALUE that came", x.balanceOf(3, 3), stays ? 3 : 0);
            check.same(what + "VALUE that went on", x.balanceOf(8, 3), stays ? 2 : 0);
            check.same(what + "STORAGE", x.stored(3, 0, 0, 0, 1, 3), stays ? 0 : 7);
            check.same(what + "LOGS", x.told(2), stays ? 1 : 0);
            check.same(what + "REFUND", x.told(1), stays ? 15000 + 24000 : 0);
            check.same(what + "TOUCHED ADDRESSES 1 2 3 and 9 8 4 5", x.told(5), stays ? 7 : 3);
            check.same(what + "TOUCHED places", x.told(6), stays ? 2 : 1);
            check.same(what + "DESTROYED", x.codeSize(4), stays ? 0 : 3);
        }
    }

    /** Taken back is what came in the MESSAGE alone: all is as it was before it, not as it was before the RUN. */
    private void whatWasBeforeStays() {
        for (String end : new String[] {"60006000FD", "FE"}) {
            ContractMachine x = new ContractMachine();
            x.balance(2, 0, 10);
            x.store(2, 1, 0, 7);
            Check.code(x, 4, Code.step(0xFF, 5));
            Check.code(x, 3, Code.step(0x55, 1, 9) + Code.step(0x55, 2, 9) + Code.step(0xA0, 0, 3) + Code.step(0x31, 10)
                + "50" + Code.call(0xF1, 0, 8, 2) + "50" + end);
            String before = Code.step(0x55, 1, 0) + Code.step(0x54, 3) + Code.step(0xA0, 0, 1).repeat(4)
                + Code.step(0x31, 9) + "50"
                + Code.call(0xF1, 0, 8, 1) + "50" + Code.call(0xF1, 9000, 4, 0) + "50";
            check.same(end, run(x, before + Code.call(0xF4, 80000, 3, 0) + Code.TELL, 200000), 1);
            check.same(end + " gives 0", x.word(24), 0);
            check.same(end + ": STORAGE of before", x.stored(2, 0, 0, 0, 1, 3), 0);
            check.same(end + ": STORAGE of it", x.stored(2, 0, 0, 0, 2, 3), 0);
            check.same(end + ": LOGS of before", x.told(2), 4);
            check.same(end + ": LOGS of before", x.log(3, 2), 1);
            check.same(end + ": REFUND of before", x.told(1), 15000 + 24000);
            check.same(end + ": BALANCE of before", x.balanceOf(2, 3), 9);
            check.same(end + ": BALANCE of before", x.balanceOf(8, 3), 1);
            check.same(end + ": DESTROYED before", x.codeSize(4), 0);
            check.same(end + ": TOUCHED 1 2 9 8 4 5 and 3", x.told(5), 7);
            check.same(end + ": places 1 and 3 of before", x.told(6), 2);
        }
    }

    /** So many changes as gas can pay for are all taken back, in the right order. */
    private void manyChangesTakenBack() {
        for (String end : new String[] {"60006000FD", "FE"}) {
            // place k gets 1, 2, 3 .. for k from 5 down to 1; what is on the STACK is the next value
            String loop = "6000 5B 6001 01" + "80 6005 55 80 6004 55 80 6003 55 80 6002 55 80 6001 55"
                + "61 012C 81 10 6002 57 50";
            ContractMachine x = new ContractMachine();
            for (int p = 1; p <= 5; p++) {
                x.store(2, p, 0, 1000 + p);
            }
            check.same("run", run(x, loop + end, 200000), end.equals("FE") ? 0 : 2);
            check.same("steps of 300 rounds", x.told(3) > 300 * 20 ? 1 : 0, 1);
            for (int p = 1; p <= 5; p++) {
                check.same("place " + p, x.stored(2, 0, 0, 0, p, 3), 1000 + p);
            }
            check.same("REFUND", x.told(1), 0);
            check.same("without the end", run(x, loop, 200000), 1);
            check.same("the last", x.stored(2, 0, 0, 0, 3, 3), 300);
        }
    }

    /** Too few NUMBERS on the STACK, or more than 1024 then. */
    private void tooFewAndTooMany() {
        for (int[] step : STEPS) {
            onTheStack(step[0], step[1], step[2]);
        }
        for (int k = 1; k <= 32; k++) {
            onTheStack(0x5F + k, 0, 1);
        }
        for (int k = 1; k <= 16; k++) {
            onTheStack(0x7F + k, k, k + 1);
            onTheStack(0x8F + k, k + 1, k + 1);
        }
        ContractMachine x = new ContractMachine();
        check.same("JUMP of none", run(x, "56", 5000), 0);
        check.same("JUMP of one", run(x, "6003 56 5B", 5000), 1);
        check.same("JUMP gives none", run(x, "6003 56 5B 50", 5000), 0);
        check.same("JUMPI gives none", run(x, "6001 6005 57 5B 50", 5000), 0);
        check.same("JUMP leaves what is below", run(x, "6007 6005 56 5B 50", 5000), 1);
        check.same("JUMPI leaves what is below", run(x, "6007 6001 6007 57 5B 50", 5000), 1);
        check.same("JUMP of 1024", run(x, "6000 " + "80".repeat(1022) + "610404 56 5B", 5000), 1);
        check.same("a NUMBER too many before JUMP", run(x, "6000 " + "80".repeat(1023) + "610405 56 5B", 5000), 0);
    }

    private void onTheStack(int op, int takes, int gives) {
        ContractMachine x = new ContractMachine();
        boolean isPush = op >= 0x60 && op <= 0x7F;
        String what = String.format("%02X", op) + "00".repeat(isPush ? op - 0x5F : 0);
        int how = op == 0xFD ? 2 : 1;
        check.same(what + " with what it takes", run(x, "6000".repeat(takes) + what, 50000), how);
        if (takes > 0) {
            check.same(what + " with one too few", run(x, "6000".repeat(takes - 1) + what, 50000), 0);
            check.same(what + " with none", run(x, what, 50000), 0);
        }
        boolean goesOn = op != 0x00 && op != 0xF3 && op != 0xFD && op != 0xFF;
        if (goesOn) {
            String all = "6000".repeat(takes) + what + "50".repeat(gives);
            check.same(what + " gives " + gives, run(x, all, 50000), 1);
            check.same(what + " gives no more", run(x, all + "50", 50000), 0);
        }
        int room = 1024 + Math.min(0, takes - gives);
        check.same(what + " on the last that is allowed", run(x, "6000" + "80".repeat(room - 1) + what, 50000), how);
        if (room < 1024) {
            check.same(what + " with 1025 then", run(x, "6000" + "80".repeat(room) + what, 50000), 0);
        }
    }

    /** The next 1 .. 32 bytes; one that goes behind the CODE ends it as STOP does. */
    private void pushes() {
        StringBuilder text = new StringBuilder();
        for (int n = 1; n <= 32; n++) {
            text.append(String.format("%02X", 0x80 + n));
            ContractMachine x = new ContractMachine();
            check.same("PUSH" + n, run(x, String.format("%02X", 0x5F + n) + text + Code.TELL, 1000), 1);
            BigInteger due = new BigInteger(text.toString(), 16);
            for (int part = 0; part < 4; part++) {
                check.same("PUSH" + n + " part " + part, x.word(8 * part), due.shiftRight(192 - 64 * part).longValue());
            }
            for (int k = 0; k <= n; k++) {
                String cut = String.format("%02X", 0x5F + n) + text.substring(0, 2 * k);
                check.same("PUSH" + n + " with " + k + " bytes", run(x, cut, 3), 1);
                check.same("PUSH" + n + " with " + k + " bytes costs", x.told(0), 0);
                check.same("PUSH" + n + " with " + k + " bytes, steps", x.told(3), 2);
                check.same("PUSH" + n + " with too little gas", run(x, cut, 2), 0);
            }
        }
    }

    /** A byte 5B that is in a PUSH is none; the one right behind it is. */
    private void jumpsIntoPushes() {
        ContractMachine x = new ContractMachine();
        for (int n = 1; n <= 32; n++) {
            for (int at = 4; at <= 4 + n; at++) {
                String code = String.format("60%02X 56 %02X", at, 0x5F + n) + "5B".repeat(n + 1);
                check.same("JUMP to " + at + " in PUSH" + n, run(x, code, 1000), at == 4 + n ? 1 : 0);
                String wise = String.format("6001 60%02X 57 %02X", at + 2, 0x5F + n) + "5B".repeat(n + 1);
                check.same("JUMPI to " + at + " in PUSH" + n, run(x, wise, 1000), at == 4 + n ? 1 : 0);
                String idle = String.format("6000 60%02X 57 %02X", at + 2, 0x5F + n) + "5B".repeat(n + 1);
                check.same("JUMPI of 0 goes on", run(x, idle, 1000), 1);
            }
        }
        // a byte in a PUSH that looks like a PUSH hides nothing
        check.same("behind a PUSH with a PUSH in it", run(x, "6005 56 60 60 5B", 1000), 1);
        check.same("a PUSH behind the last byte of another", run(x, "6007 56 60 60 60 5B 5B", 1000), 1);
        check.same("and what it hides", run(x, "6006 56 60 60 60 5B 5B", 1000), 0);
        check.same("5A", run(x, "6003 56 5A", 1000), 0);
        check.same("5C", run(x, "6003 56 5C", 1000), 0);
    }

    private void jumpsBeyond() {
        ContractMachine x = new ContractMachine();
        String[] far = {"04", "06", "FF", "0103", "FFFF", "80000003", "FFFFFFFF", "0100000003", "80000000000003",
            "FFFFFFFFFFFFFFFF", "010000000000000003"};
        check.same("JUMP to the last byte", run(x, "6003 56 5B", 1000), 1);
        for (String to : far) {
            int n = to.length() / 2;
            String code = String.format("%02X", 0x5F + n) + to;
            check.same("JUMP to " + to, run(x, code + "56 5B", 1000), 0);
            check.same("JUMPI to " + to, run(x, "6001" + code + "57 5B", 1000), 0);
            check.same("JUMPI to " + to + " of 0", run(x, "6000" + code + "57 5B", 1000), 1);
        }
        for (int k = 2; k < 32; k++) {
            String push = String.format("%02X", 0x60 + k);
            String to = "01" + "00".repeat(k - 1) + String.format("%02X", k + 3);
            check.same("JUMP to 2^" + 8 * k + " and more", run(x, push + to + "56 5B", 1000), 0);
            String near = "00".repeat(k) + String.format("%02X", k + 3);
            check.same("JUMP without it", run(x, push + near + "56 5B", 1000), 1);
        }
        // b is looked at in whole
        for (int k = 0; k < 256; k += 5) {
            String b = Code.push32(BigInteger.ONE.shiftLeft(k));
            check.same("JUMPI with bit " + k, run(x, b + "6025 57 FE 5B", 1000), 1);
        }
        check.same("JUMPI with none", run(x, Code.push32(BigInteger.ZERO) + "6025 57 FE 5B", 1000), 0);
    }

    /** Bytes that stand nowhere in the STEPS FAIL, whatever is on the STACK. */
    private void otherBytes() {
        for (int op = 0; op < 256; op++) {
            boolean known = op == 0x56 || op >= 0x60 && op <= 0x9F;
            for (int[] step : STEPS) {
                known |= step[0] == op;
            }
            ContractMachine x = new ContractMachine();
            String code = "6000".repeat(17) + String.format("%02X", op);
            if (!known) {
                check.same(code + " FAILS", run(x, code, 9000), 0);
                check.same(code + " takes all gas", x.told(0), 0);
                check.same(code + " begins", x.told(3), 18);
            }
        }
    }

    /** SSTORE, LOG, SELFDESTRUCT, CALL with a value FAIL in a STATIC one, also in what it calls; no other does. */
    private void staticOrNot() {
        String high = "7F80" + "00".repeat(31);
        String[] change = {Code.step(0x55, 1, 0), Code.step(0x55, 1, 5), Code.step(0xA0, 0, 0),
            Code.step(0xA1, 0, 0, 1), Code.step(0xA2, 0, 0, 1, 2), Code.step(0xA3, 0, 0, 1, 2, 3),
            Code.step(0xA4, 0, 1, 1, 2, 3, 4), Code.step(0xFF, 1), Code.step(0xFF, 9), Code.call(0xF1, 0, 8, 1),
            Code.call(0xF1, 0, 3, 1), "6000600060006000" + high + "60086000F1"};
        String[] keep = {Code.step(0x54, 1), Code.call(0xF1, 0, 8, 0), Code.call(0xF2, 0, 8, 1),
            Code.call(0xF4, 0, 8, 0), Code.call(0xFA, 0, 8, 0), Code.step(0x31, 9), "5B", "59", Code.step(0x51, 64)};
        for (String hex : change) {
            inside(hex, 1, 0);
        }
        for (String hex : keep) {
            inside(hex, 1, 1);
        }
    }

    /** The same CODE by CALL, and by STATICCALL with each of the ways to go on from there. */
    private void inside(String hex, int called, int still) {
        ContractMachine x = new ContractMachine();
        x.balance(3, 1, 9);
        Check.code(x, 3, hex);
        run(x, Code.call(0xF1, 100000, 3, 0) + Code.TELL, 200000);
        boolean tooMuch = hex.contains("7F80");
        check.same(hex + " by CALL", x.word(24), tooMuch ? 1 : called);
        for (int op : new int[] {0, 0xF1, 0xF2, 0xF4, 0xFA}) {
            ContractMachine y = new ContractMachine();
            y.balance(3, 1, 9);
            y.balance(4, 1, 9);
            Check.code(y, 3, hex);
            Check.code(y, 4, op == 0 ? hex : Code.call(op, 100000, 3, 0) + Code.TELL);
            String what = String.format("%s by STATICCALL, then %02X", hex, op);
            check.same(what, run(y, Code.call(0xFA, 150000, 4, 0, 0, 0, 0, 32) + Code.push(32) + "52"
                + "60406000F3", 200000), 1);
            check.same(what, op == 0 ? y.word(56) : y.word(24), still);
            check.same(what + " takes all gas or not", 200000 - y.told(0) >= 100000 ? 0 : 1, still);
            check.same(what + " changed nothing", y.balanceOf(3, 3) + y.balanceOf(4, 3), 18);
            check.same(what + " changed nothing", y.told(2) + y.told(1) + y.stored(3, 0, 0, 0, 1, 3), 0);
        }
        // behind a STATIC one it goes on as before
        ContractMachine z = new ContractMachine();
        z.balance(2, 1, 9);
        Check.code(z, 4, "00");
        String all = hex + Code.step(0x55, 2, 6);
        boolean ends = hex.endsWith("FF ");
        check.same(hex + " behind a STATIC one", run(z, Code.call(0xFA, 0, 4, 0) + all, 200000), 1);
        check.same(hex + " and SSTORE behind it", z.stored(2, 0, 0, 0, 2, 3), ends ? 0 : 6);
    }

    /** Steps that were begun: those that FAILED too, in what was taken back too, and in every MESSAGE. */
    private void stepsThatAreBegun() {
        ContractMachine x = new ContractMachine();
        check.same("gas for two of three", run(x, "6001 6001 6001", 8), 0);
        check.same("the third was begun", x.told(3), 3);
        check.same("gas for all", run(x, "6001 6001 6001", 9), 1);
        check.same("and STOP behind the CODE", x.told(3), 4);
        Check.code(x, 3, "6001 FE 6001");
        run(x, Code.call(0xF1, 9000, 3, 0), 50000);
        check.same("of one that FAILED", x.told(3), 8 + 2 + 1);
        Check.code(x, 3, "6001 60006000FD");
        run(x, Code.call(0xF1, 9000, 3, 0), 50000);
        check.same("of one that was taken back", x.told(3), 8 + 4 + 1);
        run(x, Code.call(0xF1, 9000, 77, 0), 50000);
        check.same("of one without CODE", x.told(3), 8 + 1 + 1);
        run(x, Code.call(0xF1, 0, 3, 0), 50000);
        check.same("of one without gas", x.told(3), 8 + 1 + 1);
        run(x, Code.call(0xF1, 0, 3, 1), 50000);
        check.same("of none", x.told(3), 8 + 1);
    }

    /** THE RESULT is what the RUN gave, nothing if it FAILED, and nothing by STOP and SELFDESTRUCT. */
    private void results() {
        String[] ends = {"60016000F3", "60016000FD", "60006000F3", "60006000FD", "00", "", "6001FF", "FE", "56"};
        int[] bytes = {1, 1, 0, 0, 0, 0, 0, 0, 0};
        for (int k = 0; k < ends.length; k++) {
            ContractMachine x = new ContractMachine();
            run(x, "60AA600053 60036000F3", 9000);
            check.same("before it", x.word(0), 0xAA00000000000000L);
            Check.code(x, 3, "60BB600053 60056000F3");
            run(x, "60CC600053" + Code.call(0xF1, 9000, 3, 0) + "50" + ends[k], 50000);
            check.same(ends[k] + " bytes of THE RESULT", x.told(4), bytes[k]);
            if (bytes[k] == 0) {
                check.thrown(ends[k] + " word(0)", NoSuchElementException.class, () -> x.word(0));
            } else {
                check.same(ends[k] + " word(0)", x.word(0), 0xCC00000000000000L);
                check.thrown(ends[k] + " word(1)", NoSuchElementException.class, () -> x.word(1));
            }
            check.thrown(ends[k] + " word(-1)", NoSuchElementException.class, () -> x.word(-1));
        }
    }
}
