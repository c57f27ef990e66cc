import java.util.NoSuchElementException;

/** LIMITS (promises 4, 5, 6, 8): the last that is allowed, the first that is refused, and what was taken back. */
public final class LimitEdgesTest {
    private static final Class<?> LIMIT = IndexOutOfBoundsException.class;
    private static final String REVERT = "60006000FD";
    /** An ADDRESS that nothing is known of. */
    private static final int NEW = 9;

    private final Check check;

    private LimitEdgesTest(Check check) {
        this.check = check;
    }

    public static void main(String[] args) {
        Check check = new Check();
        LimitEdgesTest test = new LimitEdgesTest(check);
        test.accountsByCalls();
        test.accountsByRuns();
        test.accountsThatAreNone();
        test.accountsThatWere();
        test.accountsTakenBack();
        test.accountsOfARunThatThrew();
        test.placesByCalls();
        test.placesByRuns();
        test.placesThatAreNone();
        test.placesThatWere();
        test.placesTakenBack();
        test.bothLimits();
        test.logs();
        test.logBytes();
        test.logsAtATime();
        test.failingComesFirst();
        test.passedOnTheWay();
        check.finish("LimitEdgesTest");
    }

    /** So many ACCOUNTS, 2 with BALANCE 100 and CODE and 3 with CODE among them. */
    private static ContractMachine accounts(int many, String two, String three) {
        ContractMachine x = new ContractMachine();
        for (int k = 2; k < many; k++) {
            x.balance(1000 + k, 0, 1);
        }
        Check.code(x, 2, two);
        Check.code(x, 3, three);
        x.balance(2, 0, 100);
        return x;
    }

    private static int run(ContractMachine x) {
        return Check.run(x, 1, 2, 0, 200000);
    }

    /** The RUN throws, and nothing of what can be asked has changed, the TAPE neither. */
    private void refused(String what, ContractMachine x) {
        x.feed(1, 2, 3, 4, 5);
        Snapshot before = new Snapshot(x, 1, 2, 3, 4, NEW, 10, 1002);
        check.thrown(what, LIMIT, () -> x.run(1, 2, 0, 200000));
        before.look(check, what);
        check.same(what + ": the TAPE stays", x.end(20), 20);
    }

    private void accountsByCalls() {
        for (int kind = 0; kind < 4; kind++) {
            int which = kind;
            ContractMachine x = accounts(63, "00", "00");
            open(x, which, NEW);
            check.same("kind " + kind + " of the 64th", x.balanceOf(NEW, 3) + x.balanceOf(NEW, 2)
                + x.codeSize(NEW) + x.stored(NEW, 0, 0, 0, 0, 3), 1);
            for (int other = 0; other < 4; other++) {
                int next = other;
                Check.tape(x, "5B");
                Snapshot before = new Snapshot(x, 2, NEW, 10);
                check.thrown("kind " + other + " of the 65th", LIMIT, () -> open(x, next, 10));
                before.look(check, "kind " + other + " of the 65th");
                check.same("the TAPE stays", x.end(1), 1);
                open(x, next, NEW);
                open(x, next, 2);
            }
        }
    }

    /** Makes an ACCOUNT be, with the TAPE as CODE if that is asked for. */
    private static void open(ContractMachine x, int kind, long address) {
        switch (kind) {
            case 0: x.balance(address, 0, 1); break;
            case 1: x.balance(address, 1, 0); break;
            case 2: x.store(address, 0, 0, 1); break;
            default: putByte(x, address); break;
        }
    }

    private static void putByte(ContractMachine x, long address) {
        x.end(0);
        x.feed(0x5B000000, 0, 0, 0, 0);
        x.end(1);
        x.code(address);
    }

    private void accountsByRuns() {
        String[] opening = {Code.call(0xF1, 0, NEW, 1), Code.call(0xF1, 0, NEW, 100), Code.step(0xFF, NEW),
            Code.call(0xF2, 90000, 4, 0), Code.call(0xF4, 90000, 4, 0)};
        for (String hex : opening) {
            for (int many = 63; many <= 64; many++) {
                ContractMachine x = accounts(many - 1, hex, "00");
                // 4 sends 1 to NEW, if it is asked to
                Check.code(x, 4, Code.call(0xF1, 0, NEW, 1));
                if (many == 63) {
                    check.same(hex + " of the 64th", run(x), 1);
                    check.same(hex + " came", x.balanceOf(NEW, 3) > 0 ? 1 : 0, 1);
                    check.thrown(hex + " then 64 are", LIMIT, () -> x.balance(10, 0, 1));
                } else {
                    refused(hex + " of the 65th", x);
                }
            }
        }
        ContractMachine x = accounts(63, "00", "00");
        check.same("VALUE of the RUN to the 64th", Check.run(x, 2, NEW, 1, 0), 1);
        check.same("it came", x.balanceOf(NEW, 3), 1);
        check.thrown("VALUE of the RUN to the 65th", LIMIT, () -> x.run(2, 10, 1, 0));
        check.same("it did not go", x.balanceOf(2, 3), 99);
        check.same("VALUE to one of them", Check.run(x, 2, NEW, 1, 0), 1);
        check.same("VALUE 0 to the 65th", Check.run(x, 2, 10, 0, 0), 1);
        check.same("from one that there is not", Check.run(x, 11, 10, 0, 0), 1);
    }

    /** With 64 that are, none of these makes one more. */
    private void accountsThatAreNone() {
        String[] harmless = {Code.call(0xF1, 0, NEW, 0), Code.call(0xF2, 0, NEW, 1), Code.call(0xF4, 0, NEW, 0),
            Code.call(0xFA, 0, NEW, 0), Code.step(0x31, NEW), Code.step(0x3B, NEW), Code.step(0x3F, NEW),
            Code.step(0x3C, NEW, 0, 0, 9), Code.call(0xF1, 0, NEW, 101), Code.call(0xF1, 0, 3, 1), Code.step(0xFF, 3),
            "30FF"};
        for (String hex : harmless) {
            ContractMachine x = accounts(64, hex, "00");
            check.same(hex, run(x), 1);
            check.same(hex, x.balanceOf(NEW, 3) + x.codeSize(NEW), 0);
        }
        ContractMachine x = accounts(64, Code.step(0xFF, NEW), "00");
        x.balance(2, 0, 0);
        check.same("SELFDESTRUCT with BALANCE 0", run(x), 1);
        check.same("no CODE any more", x.codeSize(2), 0);
        // calls that bring nothing
        ContractMachine y = accounts(64, "00", "00");
        y.balance(NEW, 0, 0);
        y.store(NEW, 0, 0, 0);
        y.end(0);
        check.same("no CODE", y.code(NEW), 0);
        check.same("asked", y.balanceOf(NEW, 3) + y.stored(NEW, 0, 0, 0, 0, 3) + y.codeSize(NEW), 0);
        check.thrown("the 65th", LIMIT, () -> y.balance(NEW, 0, 1));
    }

    /** ACCOUNTS that were count on, and can be again. */
    private void accountsThatWere() {
        for (int kind = 0; kind < 6; kind++) {
            ContractMachine x = accounts(63, "00", "00");
            switch (kind) {
                case 0: x.balance(NEW, 0, 1); x.balance(NEW, 0, 0); break;
                case 1: putByte(x, NEW); x.end(0); x.code(NEW); break;
                case 2: x.store(NEW, 0, 0, 1); x.store(NEW, 0, 0, 0); break;
                case 3: x.balance(NEW, 0, 1); Check.run(x, NEW, 2, 1, 0); break;
                case 4: Check.code(x, NEW, Code.step(0xFF, 2)); Check.run(x, 1, NEW, 0, 90000); break;
                default: Check.code(x, 2, Code.call(0xF1, 0, NEW, 1)); run(x); x.balance(NEW, 0, 0); break;
            }
            String what = "kind " + kind;
            check.same(what + " is not", x.balanceOf(NEW, 3) + x.codeSize(NEW) + x.stored(NEW, 0, 0, 0, 0, 3), 0);
            check.thrown(what + " counts on", LIMIT, () -> x.balance(10, 0, 1));
            check.thrown(what + " counts on", LIMIT, () -> x.store(10, 0, 0, 1));
            x.balance(NEW, 0, 7);
            check.same(what + " can be again", x.balanceOf(NEW, 3), 7);
        }
    }

    private void accountsTakenBack() {
        for (String end : new String[] {REVERT, "FE", "50", "600056"}) {
            // in the RUN's own MESSAGE, then in an inner one
            for (int inner = 0; inner < 2; inner++) {
                String send = Code.call(0xF1, 0, NEW, 1) + "50" + end;
                ContractMachine x = accounts(63, inner == 0 ? send : Code.call(0xF1, 90000, 3, 5), send);
                check.same(end, run(x), inner == 1 ? 1 : end.equals(REVERT) ? 2 : 0);
                check.same(end + " taken back", x.balanceOf(NEW, 3), 0);
                check.thrown(end + " counts", LIMIT, () -> x.balance(10, 0, 1));
                x.balance(NEW, 0, 4);
                check.same(end + " can be", x.balanceOf(NEW, 3), 4);
                ContractMachine y = accounts(64, inner == 0 ? send : Code.call(0xF1, 90000, 3, 5), send);
                refused(end + " with 64", y);
            }
            // what VALUE was to go to is one that is already
            ContractMachine z = accounts(62, end, "00");
            z.balance(1, 0, 5);
            z.end(0);
            check.same(end, z.run(1, 2, 5, 90000), end.equals(REVERT) ? 2 : 0);
            z.balance(NEW, 0, 1);
            check.thrown("64 are", LIMIT, () -> z.balance(10, 0, 1));
        }
    }

    /** A call that throws changes nothing, so what it had opened does not count. */
    private void accountsOfARunThatThrew() {
        ContractMachine x = accounts(62, Code.call(0xF1, 0, NEW, 1) + Code.call(0xF1, 0, 10, 1)
            + Code.call(0xF1, 0, 11, 1), "00");
        refused("three more", x);
        x.balance(20, 0, 1);
        x.balance(21, 0, 1);
        check.same("two could still be", x.balanceOf(20, 3) + x.balanceOf(21, 3), 2);
        check.thrown("and no third", LIMIT, () -> x.balance(NEW, 0, 1));
        // those that it had opened have nothing when they are opened anew
        ContractMachine y = accounts(62, Code.call(0xF1, 0, NEW, 5) + Code.call(0xF1, 0, 10, 6)
            + Code.call(0xF1, 0, 11, 7), "00");
        refused("three more", y);
        y.store(30, 0, 0, 1);
        y.store(31, 0, 0, 1);
        check.same("no BALANCE", y.balanceOf(30, 3) + y.balanceOf(31, 3) + y.balanceOf(NEW, 3), 0);
        check.same("all of it is where it was", y.balanceOf(2, 3), 100);
    }

    /** So many places: of 4 and 5, from place 1000 on; 2 and 3 have CODE. */
    private static ContractMachine places(int many, String two, String three) {
        ContractMachine x = new ContractMachine();
        for (int k = 0; k < many; k++) {
            x.store(4 + k % 2, 1000 + k / 2, 0, 1);
        }
        Check.code(x, 2, two);
        Check.code(x, 3, three);
        return x;
    }

    private void placesByCalls() {
        ContractMachine x = places(399, "00", "00");
        x.store(4, 0, 1, 0);
        check.same("the 400th", x.stored(4, 0, 0, 0, 0, 2), 1);
        for (long address : new long[] {2, 4, 5, NEW}) {
            for (long p : new long[] {1, 5000, -1}) {
                Snapshot before = new Snapshot(x, 2, 4, 5, NEW);
                check.thrown("the 401st", LIMIT, () -> x.store(address, p, 0, 1));
                check.thrown("the 401st", LIMIT, () -> x.store(address, p, 1, 0));
                before.look(check, "the 401st");
                x.store(address, p, 0, 0);
            }
        }
        x.store(4, 0, 2, 3);
        check.same("one that is", x.stored(4, 0, 0, 0, 0, 2), 2);
        x.store(5, 1198, 0, 9);
        check.same("one that is", x.stored(5, 0, 0, 0, 1198, 3), 9);
        check.thrown("of 5 as of 4", LIMIT, () -> x.store(5, 0, 0, 1));
    }

    private void placesByRuns() {
        String high = "6001 7F80" + "00".repeat(31) + "55";
        String[] storing = {Code.step(0x55, 0, 1), high, Code.call(0xF1, 90000, 3, 0), Code.call(0xF2, 90000, 3, 0),
            Code.call(0xF4, 90000, 3, 0)};
        for (String hex : storing) {
            ContractMachine x = places(399, hex, Code.step(0x55, 0, 1));
            check.same(hex + " of the 400th", run(x), 1);
            check.thrown(hex + " then 400 are", LIMIT, () -> x.store(4, 0, 0, 1));
            ContractMachine y = places(400, hex, Code.step(0x55, 0, 1));
            refused(hex + " of the 401st", y);
        }
        ContractMachine x = places(398, Code.step(0x55, 0, 1) + Code.step(0x55, 1, 1) + Code.step(0x55, 0, 2), "00");
        check.same("the 399th and the 400th", run(x), 1);
        check.same("stored", x.stored(2, 0, 0, 0, 0, 3) + x.stored(2, 0, 0, 0, 1, 3), 3);
        ContractMachine y = places(399, Code.step(0x55, 0, 1) + Code.step(0x55, 1, 1), "00");
        refused("the 400th and the 401st", y);
        y.store(4, 0, 0, 1);
        check.same("a RUN that threw does not count", y.stored(4, 0, 0, 0, 0, 3), 1);
        check.thrown("and now 400 are", LIMIT, () -> y.store(2, 0, 0, 1));
    }

    /** With 400 that are, none of these makes one more. */
    private void placesThatAreNone() {
        String[] harmless = {Code.step(0x55, 0, 0), Code.step(0x54, 0), Code.call(0xF1, 90000, 4, 0),
            Code.call(0xF4, 90000, 3, 0)};
        for (String hex : harmless) {
            ContractMachine x = places(400, hex, Code.step(0x55, 0, 0) + Code.step(0x54, 7));
            Check.code(x, 4, Code.step(0x55, 1000, 5) + Code.step(0x55, 1001, 0) + Code.step(0x55, 1001, 2));
            check.same(hex, run(x), 1);
        }
    }

    /** Places that were not 0 count on, and can be again. */
    private void placesThatWere() {
        for (int kind = 0; kind < 4; kind++) {
            ContractMachine x = places(399, "00", "00");
            switch (kind) {
                case 0: x.store(2, 0, 0, 1); x.store(2, 0, 0, 0); break;
                case 1: Check.code(x, 2, Code.step(0x55, 0, 1) + Code.step(0x55, 0, 0)); run(x); break;
                case 2: x.store(2, 0, 0, 1); Check.code(x, 2, Code.step(0x55, 0, 0)); run(x); break;
                default: x.store(2, 0, 0, 1); Check.code(x, 2, Code.step(0xFF, 1)); run(x); break;
            }
            String what = "kind " + kind;
            check.same(what + " is 0", x.stored(2, 0, 0, 0, 0, 3), 0);
            check.thrown(what + " counts on", LIMIT, () -> x.store(2, 1, 0, 1));
            Check.code(x, 2, Code.step(0x55, 1, 1));
            refused(what + " counts on", x);
            Check.code(x, 2, Code.step(0x55, 0, 6));
            check.same(what, run(x), 1);
            check.same(what + " can be again", x.stored(2, 0, 0, 0, 0, 3), 6);
        }
    }

    private void placesTakenBack() {
        String put = Code.step(0x55, 0, 1);
        for (String end : new String[] {REVERT, "FE", "50", "600056"}) {
            for (int inner = 0; inner < 3; inner++) {
                String two = inner == 0 ? put + end : Code.call(inner == 1 ? 0xF1 : 0xF4, 90000, 3, 0);
                ContractMachine x = places(399, two, put + end);
                check.same(end, run(x), inner > 0 ? 1 : end.equals(REVERT) ? 2 : 0);
                check.same(end + " taken back", x.stored(2, 0, 0, 0, 0, 3) + x.stored(3, 0, 0, 0, 0, 3), 0);
                check.thrown(end + " counts", LIMIT, () -> x.store(4, 0, 0, 1));
                long whose = inner == 1 ? 3 : 2;
                x.store(whose, 0, 0, 4);
                check.same(end + " can be", x.stored(whose, 0, 0, 0, 0, 3), 4);
                ContractMachine y = places(400, two, put + end);
                refused(end + " with 400", y);
            }
        }
        // the same place over and over counts once
        ContractMachine x = places(398, Code.call(0xF4, 40000, 3, 0).repeat(3), put + REVERT);
        check.same("run", run(x), 1);
        x.store(4, 0, 0, 1);
        check.same("the 400th", x.stored(4, 0, 0, 0, 0, 3), 1);
        check.thrown("the 401st", LIMIT, () -> x.store(4, 1, 0, 1));
    }

    /** A place of a new ACCOUNT needs room for both; refused, it takes none of either. */
    private void bothLimits() {
        ContractMachine x = new ContractMachine();
        for (int k = 0; k < 399; k++) {
            x.store(100 + k % 63, k, 0, 1);
        }
        x.store(7, 0, 0, 1);
        check.same("the 64th and the 400th", x.stored(7, 0, 0, 0, 0, 3), 1);
        check.thrown("the 65th", LIMIT, () -> x.store(8, 0, 0, 1));
        check.thrown("the 401st", LIMIT, () -> x.store(7, 1, 0, 1));
        ContractMachine y = new ContractMachine();
        for (int k = 0; k < 399; k++) {
            y.store(100 + k % 64, k, 0, 1);
        }
        check.thrown("the 65th", LIMIT, () -> y.store(8, 0, 0, 1));
        y.store(100, 1000, 0, 1);
        check.same("that took no place", y.stored(100, 0, 0, 0, 1000, 3), 1);
        ContractMachine z = new ContractMachine();
        for (int k = 0; k < 400; k++) {
            z.store(100 + k % 63, k, 0, 1);
        }
        check.thrown("the 401st", LIMIT, () -> z.store(8, 0, 0, 1));
        z.balance(9, 0, 1);
        check.same("that took no ACCOUNT", z.balanceOf(9, 3), 1);
        check.thrown("64 are", LIMIT, () -> z.balance(8, 0, 1));
    }

    /** So many LOGS of so many bytes each, in a loop. */
    private static String logging(int many, int bytes, int at) {
        return String.format("61%04X 5B 61%04X6000A0 6001 9003 80 61%04X57 50", many, bytes, at + 3);
    }

    private static int length(String hex) {
        return Check.bytes(hex).length;
    }

    private void logs() {
        ContractMachine x = accounts(2, logging(200, 0, 0), "00");
        check.same("200 LOGS", run(x), 1);
        check.same("200 LOGS", x.told(2), 200);
        check.same("the last of them", x.log(199, 0), 2);
        check.thrown("no more", NoSuchElementException.class, () -> x.log(200, 0));
        check.thrown("no more", NoSuchElementException.class, () -> x.logWord(200, 0));
        Check.code(x, 2, logging(199, 0, 0) + Code.step(0xA4, 0, 2, 11, 12, 13, 14));
        check.same("the 200th with four TOPICS", run(x), 1);
        for (int k = 1; k <= 4; k++) {
            check.same("its TOPIC " + k, x.log(199, 2 + k), 10 + k);
        }
        check.same("of every RUN", run(x), 1);
        check.same("200 LOGS", x.told(2), 200);
        Check.code(x, 2, logging(201, 0, 0));
        refused("201 LOGS", x);
        check.same("those of the RUN before stay", x.told(2), 200);
        // of inner MESSAGES too
        ContractMachine y = accounts(2, logging(199, 0, 0) + Code.call(0xF1, 9000, 3, 0), Code.step(0xA0, 0, 0));
        check.same("199 and one", run(y), 1);
        check.same("199 and one", y.told(2), 200);
        check.same("the last is of 3", y.log(199, 0), 3);
        Check.code(y, 2, logging(199, 0, 0) + Code.call(0xF1, 9000, 3, 0).repeat(2));
        refused("199 and two", y);
    }

    private void logBytes() {
        for (int bytes = 4095; bytes <= 4097; bytes++) {
            ContractMachine x = accounts(2, Code.step(0xA0, 0, bytes), "00");
            if (bytes <= 4096) {
                check.same(bytes + " bytes", run(x), 1);
                check.same(bytes + " bytes", x.log(0, 2), bytes);
                check.same("the last of them", x.logWord(0, bytes - 1), 0);
                check.thrown("no more", NoSuchElementException.class, () -> x.logWord(0, 4096));
            } else {
                refused(bytes + " bytes", x);
            }
        }
        ContractMachine x = accounts(2, logging(199, 20, 0) + Code.step(0xA0, 0, 116), "00");
        check.same("200 LOGS with 4096 bytes", run(x), 1);
        check.same("200 LOGS", x.told(2), 200);
        check.same("the last of them", x.log(199, 2), 116);
        Check.code(x, 2, logging(199, 20, 0) + Code.step(0xA0, 0, 117));
        refused("200 LOGS with 4097 bytes", x);
        Check.code(x, 2, Code.step(0xA4, 0, 4096, 1, 2, 3, 4) + Code.step(0xA4, 0, 0, 1, 2, 3, 4));
        check.same("TOPICS are no bytes", run(x), 1);
        Check.code(x, 2, Code.step(0xA0, 0, 4096) + Code.step(0xA0, 0, 1));
        refused("4096 and 1", x);
    }

    /** At a time: what was taken back makes room. */
    private void logsAtATime() {
        for (String end : new String[] {REVERT, "FE"}) {
            ContractMachine x = accounts(2, "00", logging(100, 20, 0) + end);
            String code = Code.call(0xF1, 65000, 3, 0) + "50";
            Check.code(x, 2, code + logging(200, 4, length(code)));
            check.same("taken back, then 200", Check.run(x, 1, 2, 0, 200000), 1);
            check.same("200 LOGS", x.told(2), 200);
            check.same("of 2", x.log(0, 0), 2);
            ContractMachine y = accounts(2, Code.call(0xF1, 60000, 3, 0) + Code.step(0xA0, 0, 4096),
                Code.step(0xA0, 0, 4096) + end);
            check.same("taken back, then 4096 bytes", run(y), 1);
            check.same("one LOG", y.told(2), 1);
            ContractMachine z = accounts(2, Code.call(0xF1, 60000, 3, 0) + Code.step(0xA0, 0, 4096),
                Code.step(0xA0, 0, 1));
            refused("not taken back", z);
        }
    }

    /** STACK, STATIC, gas are looked at before anything is done: it FAILS or gives 0, and no LIMIT is passed. */
    private void failingComesFirst() {
        String[] dear = {Code.call(0xF1, 0, NEW, 1), Code.step(0xFF, NEW)};
        int[] costs = {21 + 2600 + 9000 + 25000, 3 + 5000 + 2600 + 25000};
        for (int k = 0; k < 2; k++) {
            ContractMachine x = accounts(64, dear[k], "00");
            check.same("too little gas", Check.run(x, 1, 2, 0, costs[k] - 1), 0);
            check.thrown("just enough", LIMIT, () -> x.run(1, 2, 0, 200000));
            int gas = costs[k];
            check.thrown("just enough", LIMIT, () -> x.run(1, 2, 0, gas));
            Check.code(x, 3, dear[k]);
            x.balance(3, 0, 5);
            Check.code(x, 2, Code.call(0xFA, 90000, 3, 0) + Code.TELL);
            check.same("STATIC", run(x), 1);
            check.same("it FAILED", x.word(24), 0);
            Check.code(x, 2, dear[k].substring(dear[k].length() - 3));
            check.same("STACK", run(x), 0);
        }
        ContractMachine x = places(400, Code.step(0x55, 0, 1), Code.step(0x55, 0, 1));
        check.same("too little gas", Check.run(x, 1, 2, 0, 22105), 0);
        check.thrown("just enough", LIMIT, () -> x.run(1, 2, 0, 22106));
        check.same("2300 gas", Check.run(x, 1, 2, 0, 2306), 0);
        Check.code(x, 2, Code.call(0xFA, 90000, 3, 0) + Code.TELL);
        check.same("STATIC", run(x), 1);
        check.same("it FAILED", x.word(24), 0);
        Check.code(x, 2, "6000 55");
        check.same("STACK", run(x), 0);
        ContractMachine y = accounts(2, Code.step(0xA0, 0, 4097), Code.step(0xA0, 0, 4097));
        int due = 6 + 375 + 8 * 4097 + 3 * 129 + 129 * 129 / 512;
        check.same("too little gas", Check.run(y, 1, 2, 0, due - 1), 0);
        check.thrown("just enough", LIMIT, () -> y.run(1, 2, 0, due));
        Check.code(y, 2, Code.call(0xFA, 90000, 3, 0) + Code.TELL);
        check.same("STATIC", run(y), 1);
        check.same("it FAILED", y.word(24), 0);
        // a BALANCE that is less than the value, and DEPTH 24: 0
        ContractMachine z = accounts(64, Code.call(0xF1, 0, NEW, 101) + Code.TELL, "00");
        check.same("too poor", run(z), 1);
        check.same("gives 0", z.word(24), 0);
        Check.code(z, 2, "6000 6000 6000 6000 6000 6002 5A F1 15 601357 00 5B" + Code.call(0xF1, 0, NEW, 1));
        check.same("too deep", run(z), 1);
        check.same("nothing went", z.balanceOf(2, 3), 100);
    }

    /** It is thrown at once, even if all of it would be taken back later. */
    private void passedOnTheWay() {
        ContractMachine x = accounts(64, Code.call(0xF1, 90000, 3, 2) + "FE", Code.call(0xF1, 0, NEW, 1) + REVERT);
        refused("an ACCOUNT", x);
        ContractMachine y = places(400, Code.call(0xF1, 90000, 3, 0) + "FE", Code.step(0x55, 0, 1) + REVERT);
        refused("a place", y);
        ContractMachine z = accounts(2, Code.call(0xF1, 90000, 3, 0) + "FE", Code.step(0xA0, 0, 4097) + REVERT);
        refused("a LOG", z);
        // and the object goes on as if there had been no such RUN
        Check.code(z, 2, Code.step(0xA0, 0, 4096));
        check.same("the next RUN", run(z), 1);
        check.same("its LOG", z.log(0, 2), 4096);
        check.same("TOUCHED", z.told(5), 2);
    }
}
