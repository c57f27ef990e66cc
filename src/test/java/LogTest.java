import java.util.NoSuchElementException;

/** LOG, and promises 10 log, 11 logWord. */
public final class LogTest {
    private static final Class<?> NONE = NoSuchElementException.class;
    private static final Class<?> RANGE = IllegalArgumentException.class;

    private LogTest() {
    }

    public static void main(String[] args) {
        Check check = new Check();
        topics(check);
        bytes(check);
        wrongInputs(check);
        gas(check);
        takenBack(check);
        byOthers(check);
        check.finish("LogTest");
    }

    private static void topics(Check check) {
        ContractMachine x = new ContractMachine();
        StringBuilder code = new StringBuilder();
        for (int n = 0; n <= 4; n++) {
            for (int k = n; k > 0; k--) {
                code.append(String.format("7F%048d%08X%08X", 99, n, k));
            }
            code.append(String.format("60%02X6000A%d", 3 * n, n));
        }
        Check.code(x, 2, code.toString());
        check.same("run", Check.run(x, 1, 2, 0, 99999), 1);
        check.same("LOGS", x.told(2), 5);
        for (int n = 0; n <= 4; n++) {
            int i = n;
            check.same("ADDRESS", x.log(n, 0), 2);
            check.same("TOPICS", x.log(n, 1), n);
            check.same("bytes", x.log(n, 2), 3 * n);
            for (int k = 1; k <= 4; k++) {
                int what = 2 + k;
                if (k <= n) {
                    check.same("TOPIC " + k + " of " + n, x.log(n, what), (long) n << 32 | k);
                } else {
                    check.thrown("TOPIC " + k + " of " + n, NONE, () -> x.log(i, what));
                }
            }
        }
        Check.run(x, 1, 9, 0, 0);
        check.same("of the latest RUN alone", x.told(2), 0);
        check.thrown("log(0, 0)", NONE, () -> x.log(0, 0));
    }

    private static void bytes(Check check) {
        ContractMachine x = new ContractMachine();
        Check.code(x, 2, "7F 0102030405060708 090A0B0C0D0E0F10 1112131415161718 191A1B1C1D1E1FF0 600052"
            + "60026000A0 60096003A0 6021601FA0");
        check.same("run", Check.run(x, 1, 2, 0, 99999), 1);
        check.same("0 behind its end", x.logWord(0, 0), 0x0102000000000000L);
        check.same("from 1", x.logWord(0, 1), 0x0200000000000000L);
        check.same("from 0", x.logWord(1, 0), 0x0405060708090A0BL);
        check.same("from 1", x.logWord(1, 1), 0x05060708090A0B0CL);
        check.same("from 2", x.logWord(1, 2), 0x060708090A0B0C00L);
        check.same("from 8", x.logWord(1, 8), 0x0C00000000000000L);
        check.same("from 0", x.logWord(2, 0), 0xF000000000000000L);
        check.same("its bytes", x.log(2, 2), 33);
        check.same("the last", x.logWord(2, 32), 0);
        check.thrown("behind the last", NONE, () -> x.logWord(2, 33));
        check.thrown("behind the last", NONE, () -> x.logWord(0, 2));
        check.thrown("behind the last", NONE, () -> x.logWord(1, 9));
    }

    private static void wrongInputs(Check check) {
        ContractMachine x = new ContractMachine();
        Check.code(x, 2, "60006000A0");
        Check.run(x, 1, 2, 0, 999);
        for (int i : new int[] {-1, 1, Integer.MAX_VALUE, Integer.MIN_VALUE}) {
            check.thrown("log", NONE, () -> x.log(i, 0));
            check.thrown("logWord", NONE, () -> x.logWord(i, 0));
            check.thrown("what comes first", RANGE, () -> x.log(i, 7));
            check.thrown("what comes first", RANGE, () -> x.log(i, -1));
        }
        check.thrown("log(0, 7)", RANGE, () -> x.log(0, 7));
        check.thrown("log(0, -1)", RANGE, () -> x.log(0, -1));
        check.thrown("log(0, 3)", NONE, () -> x.log(0, 3));
        for (int j : new int[] {-1, 0, 1, Integer.MAX_VALUE, Integer.MIN_VALUE}) {
            check.thrown("logWord(0, " + j + ")", NONE, () -> x.logWord(0, j));
        }
    }

    private static void gas(Check check) {
        for (int n = 0; n <= 4; n++) {
            ContractMachine x = new ContractMachine();
            Check.code(x, 2, "6001".repeat(n) + "60216000 A" + n);
            int due = 3 * n + 6 + 375 + 375 * n + 8 * 33 + 6;
            check.same("just enough", Check.run(x, 1, 2, 0, due), 1);
            check.same("nothing left", x.told(0), 0);
            check.same("one less", Check.run(x, 1, 2, 0, due - 1), 0);
            check.same("no LOG", x.told(2), 0);
            Check.code(x, 2, "6001".repeat(n + 1) + "A" + n);
            check.same("too few", Check.run(x, 1, 2, 0, 9999), 0);
        }
    }

    private static void takenBack(Check check) {
        ContractMachine x = new ContractMachine();
        Check.code(x, 3, "60016000A0 60006000FD");
        Check.code(x, 4, "60026000A0 FE");
        Check.code(x, 5, "60036000A0");
        String call = "60006000 6000 6000 6000 60%02X 613000 F1 50 ";
        Check.code(x, 2, String.format(call + call + call, 3, 5, 4) + "60046000A0");
        check.same("run", Check.run(x, 1, 2, 0, 99999), 1);
        check.same("LOGS that stay", x.told(2), 2);
        check.same("of 5", x.log(0, 0), 5);
        check.same("of 5", x.log(0, 2), 3);
        check.same("of 2", x.log(1, 0), 2);
        check.same("of 2", x.log(1, 2), 4);
    }

    private static void byOthers(Check check) {
        ContractMachine x = new ContractMachine();
        Check.code(x, 3, "60016000A0");
        Check.code(x, 2, "6000 6000 6000 6000 6003 613000 F4 6000 6000 6000 6000 6000 6003 613000 F2"
            + "6000 6000 6000 6000 6003 613000 FA 600155");
        Check.run(x, 1, 2, 0, 99999);
        check.same("LOGS", x.told(2), 2);
        check.same("DELEGATECALL", x.log(0, 0), 2);
        check.same("CALLCODE", x.log(1, 0), 2);
        check.same("not in a STATIC one", x.stored(2, 0, 0, 0, 1, 3), 0);
    }
}
