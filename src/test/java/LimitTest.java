/** LIMITS that a RUN passes (promise 8): it throws, and nothing has changed. */
public final class LimitTest {
    private static final Class<?> LIMIT = IndexOutOfBoundsException.class;

    private LimitTest() {
    }

    public static void main(String[] args) {
        Check check = new Check();
        accountsByValue(check);
        accountsByRun(check);
        accountsByDestroying(check);
        accountsTakenBack(check);
        places(check);
        placesTakenBack(check);
        logs(check);
        logBytes(check);
        logsAtATime(check);
        check.finish("LimitTest");
    }

    /** ACCOUNT 2 with CODE, and so many more, from 1000 on. */
    private static ContractMachine with(int accounts, String hex) {
        ContractMachine x = new ContractMachine();
        for (int k = 1; k < accounts; k++) {
            x.balance(1000 + k, 0, 1);
        }
        Check.code(x, 2, hex);
        x.balance(2, 0, 100);
        return x;
    }

    private static String send(int to) {
        return String.format("6000600060006000 6001 61%04X 6000 F1 50", to);
    }

    private static void accountsByValue(Check check) {
        String twice = "6001600055" + send(0x500) + send(0x501);
        ContractMachine x = with(62, twice);
        check.same("the 64th", Check.run(x, 1, 2, 0, 199999), 1);
        ContractMachine y = with(63, "600A600052 60056000A0 60206000F3");
        Check.run(y, 1, 2, 0, 9999);
        int[] before = new int[7];
        for (int k = 0; k < 7; k++) {
            before[k] = y.told(k);
        }
        Check.code(y, 2, twice);
        y.feed(1, 2, 3, 4, 5);
        check.thrown("the 65th", LIMIT, () -> y.run(1, 2, 0, 199999));
        check.same("the TAPE stays", y.end(20), 20);
        for (int k = 0; k < 7; k++) {
            check.same("told(" + k + ") stays", y.told(k), before[k]);
        }
        check.same("THE RESULT stays", y.word(24), 10);
        check.same("the LOG stays", y.log(0, 2), 5);
        check.same("BALANCES stay", y.balanceOf(2, 3), 100);
        check.same("BALANCES stay", y.balanceOf(0x500, 3), 0);
        check.same("STORAGE stays", y.stored(2, 0, 0, 0, 0, 3), 0);
        y.balance(0x777, 0, 1);
        check.same("it does not count, for it has not been", y.balanceOf(0x777, 3), 1);
        check.thrown("now 64 are", LIMIT, () -> y.balance(0x778, 0, 1));
        check.same("without a value", run(y, "6000600060006000 6000 610500 6000 F1"), 1);
        check.same("to one of them", run(y, send(0x777)), 1);
        check.same("too little gas comes first", Check.run(y, 1, 2, 0, 21), 0);
    }

    private static int run(ContractMachine x, String hex) {
        Check.code(x, 2, hex);
        return Check.run(x, 1, 2, 0, 199999);
    }

    private static void accountsByRun(Check check) {
        ContractMachine x = with(64, "00");
        check.thrown("value to the 65th", LIMIT, () -> x.run(2, 9, 1, 0));
        check.thrown("less than value comes first", UnsupportedOperationException.class, () -> x.run(2, 9, 101, 0));
        check.same("no value", Check.run(x, 2, 9, 0, 0), 1);
        check.same("from a DEAD one", Check.run(x, 8, 9, 0, 0), 1);
        check.same("nothing moved", x.balanceOf(2, 3), 100);
    }

    private static void accountsByDestroying(Check check) {
        ContractMachine x = with(64, "610500FF");
        check.thrown("the BALANCE to the 65th", LIMIT, () -> x.run(1, 2, 0, 199999));
        check.same("nothing moved", x.balanceOf(2, 3), 100);
        check.same("CODE stays", x.codeSize(2), 4);
        check.same("too little gas comes first", Check.run(x, 1, 2, 0, 32602), 0);
        x.balance(2, 0, 0);
        check.same("BALANCE 0", Check.run(x, 1, 2, 0, 199999), 1);
        check.thrown("it counts on", LIMIT, () -> x.balance(0x500, 0, 1));
    }

    private static void accountsTakenBack(Check check) {
        ContractMachine x = with(63, send(0x500) + "60006000FD");
        check.same("by REVERT", Check.run(x, 1, 2, 0, 199999), 2);
        check.same("taken back", x.balanceOf(0x500, 3), 0);
        check.thrown("it was at some time", LIMIT, () -> x.balance(0x501, 0, 1));
        x.balance(0x500, 0, 1);
        check.same("so it can be again", x.balanceOf(0x500, 3), 1);
        ContractMachine y = with(63, send(0x500) + "FE");
        check.same("FAILED", Check.run(y, 1, 2, 0, 199999), 0);
        check.thrown("it was at some time", LIMIT, () -> y.balance(0x501, 0, 1));
    }

    private static ContractMachine stored(int places, String hex) {
        ContractMachine x = new ContractMachine();
        for (int k = 0; k < places; k++) {
            x.store(2 + k % 3, 1000 + k, 0, 1);
        }
        Check.code(x, 2, hex);
        return x;
    }

    private static void places(Check check) {
        String two = "6001600055 6001600155";
        ContractMachine x = stored(398, two);
        check.same("the 400th", Check.run(x, 1, 2, 0, 199999), 1);
        ContractMachine y = stored(399, two);
        check.thrown("the 401st", LIMIT, () -> y.run(1, 2, 0, 199999));
        check.same("nothing changed", y.stored(2, 0, 0, 0, 0, 3), 0);
        check.same("too little gas comes first", Check.run(y, 1, 2, 0, 12 + 44200 - 1), 0);
        check.thrown("that one counts, for it was taken back", LIMIT, () -> y.store(2, 5, 0, 1));
        check.same("0 is no place", run(y, "6000600955"), 1);
        check.same("one that is", run(y, "6007 6103E8 55"), 1);
        check.same("one that is", y.stored(2, 0, 0, 0, 1000, 3), 7);
    }

    private static void placesTakenBack(Check check) {
        ContractMachine x = stored(399, "6001600055 60006000FD");
        check.same("by REVERT", Check.run(x, 1, 2, 0, 199999), 2);
        check.thrown("it was at some time", LIMIT, () -> x.store(2, 1, 0, 1));
        x.store(2, 0, 0, 4);
        check.same("so it can be again", x.stored(2, 0, 0, 0, 0, 3), 4);
        ContractMachine y = stored(399, "6001600055 6001600155");
        check.thrown("the 401st", LIMIT, () -> y.run(1, 2, 0, 199999));
        y.store(3, 1, 0, 9);
        check.same("a RUN that threw does not count", y.stored(3, 0, 0, 0, 1, 3), 9);
        ContractMachine z = stored(399, "6009FF");
        check.same("SELFDESTRUCT", Check.run(z, 1, 2, 0, 199999), 1);
        z.store(2, 0, 0, 1);
        check.thrown("what is gone counts on", LIMIT, () -> z.store(2, 1, 0, 1));
        z.store(2, 1000, 0, 3);
        check.same("so it can be again", z.stored(2, 0, 0, 0, 1000, 3), 3);
        ContractMachine v = stored(400, "6009FF");
        check.same("SELFDESTRUCT with 400", Check.run(v, 1, 2, 0, 199999), 1);
        check.same("of another", v.stored(3, 0, 0, 0, 1001, 3), 1);
        check.same("its own", v.stored(2, 0, 0, 0, 1000, 3), 0);
    }

    /** So many LOGS of so many bytes each, then something more. */
    private static ContractMachine logging(int many, int bytes, String more) {
        ContractMachine x = new ContractMachine();
        Check.code(x, 2, String.format("61%04X 5B 61%04X6000A0 6001 9003 80 600357", many, bytes) + more);
        return x;
    }

    private static void logs(Check check) {
        ContractMachine x = logging(200, 0, "");
        check.same("200 LOGS", Check.run(x, 1, 2, 0, 199999), 1);
        check.same("200 LOGS", x.told(2), 200);
        check.same("the last", x.log(199, 0), 2);
        check.thrown("and no more", java.util.NoSuchElementException.class, () -> x.log(200, 0));
        ContractMachine y = logging(201, 0, "");
        check.thrown("201 LOGS", LIMIT, () -> y.run(1, 2, 0, 199999));
        check.same("told stays", y.told(2), 0);
    }

    private static void logBytes(Check check) {
        ContractMachine x = logging(1, 4096, "60006000A0");
        check.same("4096 bytes", Check.run(x, 1, 2, 0, 199999), 1);
        check.same("4096 bytes", x.log(0, 2), 4096);
        check.same("and none", x.log(1, 2), 0);
        ContractMachine y = logging(1, 4096, "60016000A0");
        check.thrown("4097 bytes", LIMIT, () -> y.run(1, 2, 0, 199999));
        check.same("too little gas comes first", Check.run(y, 1, 2, 0, 375 + 8 * 4096 + 500), 0);
        ContractMachine z = logging(1, 4097, "");
        check.thrown("4097 bytes at once", LIMIT, () -> z.run(1, 2, 0, 199999));
        ContractMachine v = logging(64, 64, "");
        check.same("64 of 64 bytes", Check.run(v, 1, 2, 0, 199999), 1);
        check.same("64 of 64 bytes", v.log(63, 2), 64);
    }

    private static void logsAtATime(Check check) {
        ContractMachine x = logging(110, 20, "60006000FD");
        Check.code(x, 3, "6000 6000 6000 6000 6000 6002 62 012000 F1 50".repeat(2)
            + "6064 5B 60106000A0 6001 9003 80 602657");
        check.same("what is taken back does not count", Check.run(x, 1, 3, 0, 200000), 1);
        check.same("LOGS", x.told(2), 100);
        check.same("of 3", x.log(99, 0), 3);
    }
}
