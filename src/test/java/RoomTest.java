import java.lang.management.ManagementFactory;
import java.util.Random;

/**
 * All calls of one run live in one room of 7.3 million fields and elements, garbage too. An element has at least
 * one byte, so what the Java machine counts in bytes is never below what the room counts.
 */
public final class RoomTest {
    private static final long ROOM = 7_300_000;

    private RoomTest() {
    }

    private static long allocated() {
        return ((com.sun.management.ThreadMXBean) ManagementFactory.getThreadMXBean()).getCurrentThreadAllocatedBytes();
    }

    public static void main(String[] args) {
        Check check = new Check();
        allocated();
        newObject(check);
        deepAndWide(check);
        growing(check);
        steady(check);
        check.finish("RoomTest");
    }

    private static void newObject(Check check) {
        long before = allocated();
        ContractMachine x = new ContractMachine();
        long used = allocated() - before;
        check.same("a new object takes " + used, used < 600_000 && x.told(0) == 0 ? 1 : 0, 1);
    }

    /** Much MEMORY in all 25 MESSAGES at once, all STACKS, CODE of 64 ACCOUNTS, then a long RESULT twice. */
    private static void deepAndWide(Check check) {
        ContractMachine x = new ContractMachine();
        // a 64th of the gas stays behind at each level, so this is near what 25 of them can pay for
        byte[] deep = Check.bytes("619000 51 50 6000 6000 6000 6000 6000 30 5A F1 60006000F3");
        byte[] flat = Check.bytes("62 049400 6000 F3");
        long before = allocated();
        for (int k = 0; k < 64; k++) {
            x.end(0);
            for (int j = 0; j < 5; j++) {
                x.feed(k, j, 0, 0, 0);
            }
            x.code(2 + k);
        }
        put(x, 2, deep);
        x.run(1, 2, 0, 200000);
        check.same("steps in all 25", x.told(3) > 25 * 12 ? 1 : 0, 1);
        put(x, 2, flat);
        x.run(1, 2, 0, 200000);
        x.run(1, 2, 0, 200000);
        check.same("a long RESULT", x.told(4), 0x049400);
        long used = allocated() - before;
        check.same("the dearest calls take " + used, used < ROOM ? 1 : 0, 1);
    }

    private static void put(ContractMachine x, long address, byte[] bytes) {
        Check.tape(x, bytes);
        x.code(address);
    }

    /** Each RUN reaches a little farther than the one before it. */
    private static void growing(Check check) {
        ContractMachine x = new ContractMachine();
        Check.code(x, 2, "600035 6000 F3");
        long used = 0;
        for (int k = 0; k < 125; k++) {
            x.feed(0, 0, 0, 0, 0);
            x.feed(0, 0, 1000 + 2380 * k, 0, 0);
            x.end(32);
            long before = allocated();
            x.run(1, 2, 0, 200000);
            used += allocated() - before;
        }
        check.same("the last", x.told(4), 1000 + 2380 * 124);
        check.same("growing takes " + used, used < ROOM ? 1 : 0, 1);
    }

    private static void steady(Check check) {
        ContractMachine x = new ContractMachine();
        RandomPrograms programs = new RandomPrograms(new Random(5), new long[] {1, 2, 3, 4});
        x.balance(1, 0, 1000);
        x.balance(2, 0, 1000);
        long used = 0;
        for (int k = 0; k < 60; k++) {
            put(x, 2 + k % 3, programs.program(30));
            x.end(0);
            long before = allocated();
            x.run(1, 2, 0, 200000);
            used += allocated() - before;
        }
        check.same("RUNS take " + used, used < ROOM / 4 ? 1 : 0, 1);
    }
}
