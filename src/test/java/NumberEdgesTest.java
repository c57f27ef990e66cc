import java.math.BigInteger;

/** NUMBERS that wrap, NUMBERS WITH SIGN, and the edges of the STEPS 01 .. 1D (promise 8), each on both its sides. */
public final class NumberEdgesTest {
    private static final BigInteger ZERO = BigInteger.ZERO;
    private static final BigInteger ONE = BigInteger.ONE;
    private static final BigInteger ALL = ONE.shiftLeft(256).subtract(ONE);
    /** The lowest NUMBER WITH SIGN, and the highest. */
    private static final BigInteger LEAST = ONE.shiftLeft(255);
    private static final BigInteger MOST = LEAST.subtract(ONE);

    private final Check check;

    private NumberEdgesTest(Check check) {
        this.check = check;
    }

    public static void main(String[] args) {
        Check check = new Check();
        NumberEdgesTest test = new NumberEdgesTest(check);
        test.wrapping();
        test.dividing();
        test.dividingLongOnes();
        test.oneBehindAnother();
        test.dividingWithSign();
        test.inWhole();
        test.powers();
        test.bytesOfPowers();
        test.signs();
        test.comparing();
        test.masks();
        test.bytes();
        test.shifts();
        test.spelling();
        check.finish("NumberEdgesTest");
    }

    private static BigInteger n(long v) {
        return v < 0 ? ALL.add(ONE).add(BigInteger.valueOf(v)) : BigInteger.valueOf(v);
    }

    private static BigInteger bit(int k) {
        return ONE.shiftLeft(k);
    }

    /** Looks at all 256 bits of what the step gives; the operands come a first. */
    private void gives(int op, BigInteger due, BigInteger... operands) {
        StringBuilder code = new StringBuilder();
        StringBuilder what = new StringBuilder(String.format("%02X of", op));
        for (int k = operands.length - 1; k >= 0; k--) {
            code.append(Code.push32(operands[k]));
        }
        for (BigInteger operand : operands) {
            what.append(" ").append(operand.toString(16));
        }
        ContractMachine x = new ContractMachine();
        // a NUMBER below them must stay as it is
        Check.code(x, 2, Code.push(77) + code + Code.bare(op) + "600052 602052 60406000F3");
        check.same(what + " succeeds", Check.run(x, 1, 2, 0, 5000), 1);
        for (int part = 0; part < 4; part++) {
            check.same(what + " part " + part, x.word(8 * part), due.shiftRight(192 - 64 * part).longValue());
            check.same(what + " below it", x.word(32 + 8 * part), part == 3 ? 77 : 0);
        }
    }

    private void wrapping() {
        gives(0x01, ALL, ALL, ZERO);
        gives(0x01, ALL, ALL.subtract(ONE), ONE);
        gives(0x01, ZERO, ALL, ONE);
        gives(0x01, ZERO, ONE, ALL);
        gives(0x01, ZERO, LEAST, LEAST);
        gives(0x01, ALL.subtract(ONE), ALL, ALL);
        for (int k = 32; k < 256; k += 32) {
            gives(0x01, bit(k), bit(k).subtract(ONE), ONE);
            gives(0x03, bit(k).subtract(ONE), bit(k), ONE);
        }
        gives(0x02, LEAST, bit(128), bit(127));
        gives(0x02, ZERO, bit(128), bit(128));
        gives(0x02, ONE, ALL, ALL);
        gives(0x02, n(-3), ALL, n(3));
        gives(0x02, ZERO, ALL, ZERO);
        gives(0x03, ZERO, ONE, ONE);
        gives(0x03, ALL, ZERO, ONE);
        gives(0x03, ONE, ZERO, ALL);
        gives(0x03, ZERO, ALL, ALL);
        gives(0x03, n(5), n(7), n(2));
        gives(0x03, n(-5), n(2), n(7));
    }

    private void dividing() {
        gives(0x04, ONE, n(7), n(7));
        gives(0x04, ZERO, n(6), n(7));
        gives(0x04, ONE, n(13), n(7));
        gives(0x04, n(2), n(14), n(7));
        gives(0x04, ALL, ALL, ONE);
        gives(0x04, ONE, ALL, ALL);
        gives(0x04, ZERO, ALL.subtract(ONE), ALL);
        gives(0x04, MOST, ALL, n(2));
        gives(0x04, ZERO, n(7), ZERO);
        gives(0x04, ZERO, ALL, ZERO);
        gives(0x04, ZERO, ZERO, ZERO);
        gives(0x04, ZERO, ZERO, n(7));
        gives(0x06, ZERO, n(7), n(7));
        gives(0x06, n(6), n(6), n(7));
        gives(0x06, n(6), n(13), n(7));
        gives(0x06, ZERO, ALL, ONE);
        gives(0x06, ALL.subtract(ONE), ALL.subtract(ONE), ALL);
        gives(0x06, ONE, ALL, n(2));
        gives(0x06, ZERO, n(7), ZERO);
        gives(0x06, ZERO, ALL, ZERO);
        gives(0x06, ZERO, ZERO, ZERO);
    }

    /** Pairs of 32 bits each where a digit of the quotient is easily guessed too high (after Hacker's Delight). */
    private void dividingLongOnes() {
        String[][] pairs = {{"800000000000000000000003", "200000000000000000000001"},
            {"7FFFFFFF800000000000000000000000", "800000000000000000000001"},
            {"80000000FFFFFFFE00000000", "80000000FFFFFFFF"}, {"80000000000000000000000000000003",
                "200000000000000000000001"}, {"800000000000FFFE00000000", "80000000000FFFF"},
            {"FFFFFFFE00000000", "FFFFFFFF"}, {"FFFFFFFF00000000", "FFFFFFFF"}, {"8000000000000000", "80000000"},
            {"7FFFFFFFFFFFFFFF", "80000000"}, {"FFFFFFFFFFFFFFFFFFFFFFFE", "FFFFFFFFFFFFFFFF"},
            {"8000000000000000FFFFFFFF00000000", "8000000000000000FFFFFFFF"},
            {"7FFFFFFFFFFFFFFF0000000000000000", "80000000000000000000000000000001".substring(8)},
            {"FFFFFFFF00000001000000000000000000000000FFFFFFFFFFFFFFFFFFFFFFFF", "FFFFFFFF00000001"},
            {"FFFFFFFFFFFFFFFFFFFFFFFFFFFFFFFEBAAEDCE6AF48A03BBFD25E8CD0364141", "100000000000000000000000000000001"}};
        for (String[] pair : pairs) {
            BigInteger a = new BigInteger(pair[0], 16);
            BigInteger b = new BigInteger(pair[1], 16);
            for (int k = 0; k + a.bitLength() <= 256; k += 13) {
                BigInteger c = a.shiftLeft(k);
                gives(0x04, c.divide(b), c, b);
                gives(0x06, c.mod(b), c, b);
                gives(0x08, c.add(ALL).mod(b), c, ALL, b);
                gives(0x09, c.multiply(ALL).mod(b), c, ALL, b);
                gives(0x09, c.multiply(c).mod(a), c, c, a);
                gives(0x09, ALL.multiply(ALL.subtract(a)).mod(c), ALL, ALL.subtract(a), c);
            }
        }
    }

    /** What a longer sum left behind within the machine does not come into a shorter one. */
    private void oneBehindAnother() {
        String all = Code.ALL;
        String[] longer = {all + all + all + "09 50", all + all + "02 50", "6001" + all + "04 50",
            "6003" + all + all + "08 50", all + all + "0A 50", "6007" + all + "06 50"};
        String[] shorter = {"6002 6008 04", "6005 6009 06", "6003 6004 6005 08", "6006 6005 6002 09", "6002 6002 0A",
            "6002 6002 02", "6002 6008 05", "6005 6009 07", "68010000000000000000 6004 04"};
        long[] due = {4, 4, 0, 4, 4, 4, 4, 4, 0};
        for (String first : longer) {
            for (int k = 0; k < shorter.length; k++) {
                ContractMachine x = new ContractMachine();
                Check.code(x, 2, first + shorter[k] + Code.TELL);
                check.same("run", Check.run(x, 1, 2, 0, 9000), 1);
                check.same(first + shorter[k], x.word(24), due[k]);
                check.same(first + shorter[k] + " above", x.word(0) | x.word(8) | x.word(16), 0);
            }
        }
    }

    private void dividingWithSign() {
        gives(0x05, n(3), n(7), n(2));
        gives(0x05, n(-3), n(-7), n(2));
        gives(0x05, n(-3), n(7), n(-2));
        gives(0x05, n(3), n(-7), n(-2));
        gives(0x05, ZERO, n(-1), n(2));
        gives(0x05, ZERO, n(1), n(-2));
        gives(0x05, LEAST, LEAST, ONE);
        gives(0x05, LEAST, LEAST, ALL);
        gives(0x05, MOST, LEAST.add(ONE), ALL);
        gives(0x05, LEAST.add(ONE), MOST, ALL);
        gives(0x05, ONE, LEAST, LEAST);
        gives(0x05, ZERO, MOST, LEAST);
        gives(0x05, ALL, LEAST, MOST);
        gives(0x05, ZERO, n(7), ZERO);
        gives(0x05, ZERO, n(-7), ZERO);
        gives(0x05, ZERO, LEAST, ZERO);
        gives(0x05, ZERO, ZERO, ALL);
        gives(0x07, ONE, n(7), n(2));
        gives(0x07, n(-1), n(-7), n(2));
        gives(0x07, ONE, n(7), n(-2));
        gives(0x07, n(-1), n(-7), n(-2));
        gives(0x07, ZERO, n(-6), n(2));
        gives(0x07, ZERO, n(6), n(-2));
        gives(0x07, ZERO, LEAST, ALL);
        gives(0x07, ZERO, LEAST, LEAST);
        gives(0x07, MOST, MOST, LEAST);
        gives(0x07, ALL, LEAST, MOST);
        gives(0x07, ZERO, n(7), ZERO);
        gives(0x07, ZERO, n(-7), ZERO);
        gives(0x07, ZERO, LEAST, ZERO);
    }

    /** (a + b) mod c and (a b) mod c are of the sum and the product that did not wrap. */
    private void inWhole() {
        gives(0x08, n(6), ALL, ONE, n(10));
        gives(0x08, n(5), ALL.subtract(ONE), ONE, n(10));
        gives(0x08, ZERO, ALL, ALL, ALL);
        gives(0x08, ALL.subtract(n(2)), ALL.subtract(ONE), ALL.subtract(ONE), ALL);
        gives(0x08, n(2), ALL, ALL, ALL.subtract(ONE));
        gives(0x08, ZERO, LEAST, LEAST, LEAST);
        gives(0x08, ZERO, n(3), n(4), n(7));
        gives(0x08, n(6), n(3), n(3), n(7));
        gives(0x08, ONE, n(4), n(4), n(7));
        gives(0x08, ZERO, ALL, ALL, ONE);
        gives(0x08, ZERO, ALL, ALL, ZERO);
        gives(0x08, ZERO, n(3), n(4), ZERO);
        gives(0x09, n(6), bit(128), bit(128), n(10));
        gives(0x09, n(8), bit(128), bit(127), n(10));
        gives(0x09, ZERO, ALL, ALL, ALL);
        gives(0x09, ONE, ALL, ALL, ALL.subtract(ONE));
        gives(0x09, ALL.subtract(n(2)), ALL.subtract(ONE), n(2), ALL);
        gives(0x09, ZERO, n(2), n(3), n(6));
        gives(0x09, n(6), n(2), n(3), n(7));
        gives(0x09, ZERO, ALL, ALL, ONE);
        gives(0x09, ZERO, ALL, ALL, ZERO);
        gives(0x09, ZERO, n(2), n(3), ZERO);
    }

    private void powers() {
        gives(0x0A, LEAST, n(2), n(255));
        gives(0x0A, ZERO, n(2), n(256));
        gives(0x0A, ZERO, n(2), n(257));
        gives(0x0A, ZERO, n(2), bit(255));
        gives(0x0A, ONE, ZERO, ZERO);
        gives(0x0A, ZERO, ZERO, ONE);
        gives(0x0A, ONE, ALL, ZERO);
        gives(0x0A, ALL, ALL, ONE);
        gives(0x0A, ONE, ALL, n(2));
        gives(0x0A, ALL, ALL, ALL);
        gives(0x0A, ONE, ONE, ALL);
        gives(0x0A, n(3).modPow(ALL, ALL.add(ONE)), n(3), ALL);
        gives(0x0A, n(3).modPow(LEAST, ALL.add(ONE)), n(3), LEAST);
    }

    /** 50 gas for each byte of b that is needed: none of 0, k of 2^8k - 1, one more of 2^8k. */
    private void bytesOfPowers() {
        powerCosts(ZERO, 0);
        for (int k = 1; k <= 32; k++) {
            powerCosts(bit(8 * k - 8), k);
            powerCosts(bit(8 * k).subtract(ONE), k);
        }
    }

    private void powerCosts(BigInteger b, int bytes) {
        int due = 3 + 3 + 10 + 50 * bytes;
        ContractMachine x = new ContractMachine();
        Check.code(x, 2, Code.push32(b) + "6001 0A");
        check.same("EXP of " + b.toString(16) + " with just enough", Check.run(x, 1, 2, 0, due), 1);
        check.same("EXP of " + b.toString(16) + " leaves", x.told(0), 0);
        check.same("EXP of " + b.toString(16) + " with one less", Check.run(x, 1, 2, 0, due - 1), 0);
    }

    private void signs() {
        gives(0x0B, n(0x7F), ZERO, n(0x7F));
        gives(0x0B, n(-0x80), ZERO, n(0x80));
        gives(0x0B, n(0x7F), ZERO, n(0xFF7F));
        gives(0x0B, n(-1), ZERO, n(0x01FF));
        gives(0x0B, ZERO, ZERO, ALL.subtract(n(0xFF)));
        for (int a = 0; a < 31; a++) {
            BigInteger top = bit(8 * a + 7);
            gives(0x0B, top.subtract(ONE), n(a), top.subtract(ONE));
            gives(0x0B, ALL.add(ONE).subtract(top), n(a), top);
            gives(0x0B, ZERO, n(a), top.shiftLeft(1));
            gives(0x0B, top.subtract(ONE), n(a), ALL.subtract(top));
        }
        // from 31 on b stays
        for (BigInteger a : new BigInteger[] {n(31), n(32), n(255), bit(32), bit(64), bit(255), ALL}) {
            gives(0x0B, n(0x80), a, n(0x80));
            gives(0x0B, LEAST, a, LEAST);
            gives(0x0B, MOST, a, MOST);
        }
    }

    private void comparing() {
        BigInteger[] less = {ZERO, ONE, MOST, LEAST, ALL.subtract(ONE), n(0xFFFFFFFFL), bit(64).subtract(ONE)};
        BigInteger[] more = {ONE, n(2), LEAST, LEAST.add(ONE), ALL, bit(32), bit(64)};
        for (int k = 0; k < less.length; k++) {
            order(0x10, 0x11, less[k], more[k]);
        }
        order(0x10, 0x11, ZERO, ALL);
        BigInteger[] lower = {LEAST, LEAST, LEAST, n(-2), n(-1), n(-1), ZERO, ZERO, MOST.subtract(ONE), LEAST};
        BigInteger[] upper = {LEAST.add(ONE), ALL, MOST, n(-1), ZERO, MOST, ONE, MOST, MOST, ZERO};
        for (int k = 0; k < lower.length; k++) {
            order(0x12, 0x13, lower[k], upper[k]);
        }
        for (int k = 0; k < 256; k++) {
            gives(0x14, ZERO, LEAST.or(ONE), LEAST.or(ONE).xor(bit(k)));
            gives(0x15, ZERO, bit(k));
        }
        gives(0x14, ONE, ALL, ALL);
        gives(0x14, ONE, ZERO, ZERO);
        gives(0x15, ONE, ZERO);
        gives(0x15, ZERO, ALL);
    }

    private void order(int below, int above, BigInteger less, BigInteger more) {
        gives(below, ONE, less, more);
        gives(below, ZERO, more, less);
        gives(below, ZERO, less, less);
        gives(below, ZERO, more, more);
        gives(above, ZERO, less, more);
        gives(above, ONE, more, less);
        gives(above, ZERO, less, less);
        gives(above, ZERO, more, more);
    }

    private void masks() {
        BigInteger odd = new BigInteger("AA".repeat(32), 16);
        BigInteger even = new BigInteger("55".repeat(32), 16);
        gives(0x16, ZERO, odd, even);
        gives(0x16, odd, odd, ALL);
        gives(0x17, ALL, odd, even);
        gives(0x17, odd, odd, ZERO);
        gives(0x18, ALL, odd, even);
        gives(0x18, ZERO, odd, odd);
        gives(0x18, even, odd, ALL);
        gives(0x19, even, odd);
        gives(0x19, ALL, ZERO);
        gives(0x19, ZERO, ALL);
    }

    private void bytes() {
        StringBuilder text = new StringBuilder();
        for (int k = 0; k < 32; k++) {
            text.append(String.format("%02X", 0xA0 + k));
        }
        BigInteger b = new BigInteger(text.toString(), 16);
        for (int a = 0; a < 32; a++) {
            gives(0x1A, n(0xA0 + a), n(a), b);
        }
        for (BigInteger a : new BigInteger[] {n(32), n(33), n(255), n(256), bit(32), bit(64), bit(255), ALL}) {
            gives(0x1A, ZERO, a, b);
            gives(0x1A, ZERO, a, ALL);
        }
    }

    private void shifts() {
        BigInteger odd = new BigInteger("AA".repeat(32), 16);
        for (int a : new int[] {0, 1, 7, 8, 31, 32, 33, 63, 64, 65, 127, 128, 223, 224, 225, 254, 255}) {
            gives(0x1B, odd.shiftLeft(a).and(ALL), n(a), odd);
            gives(0x1C, odd.shiftRight(a), n(a), odd);
            gives(0x1D, odd.subtract(ALL).subtract(ONE).shiftRight(a).and(ALL), n(a), odd);
            gives(0x1D, odd.shiftRight(a + 1), n(a), odd.shiftRight(1));
        }
        gives(0x1B, LEAST, n(255), ALL);
        gives(0x1C, ONE, n(255), ALL);
        gives(0x1D, ALL, n(255), LEAST);
        gives(0x1D, ONE, n(254), MOST);
        gives(0x1D, ZERO, n(255), MOST);
        for (BigInteger a : new BigInteger[] {n(256), n(257), n(511), n(512), bit(32), bit(64), bit(255), ALL}) {
            gives(0x1B, ZERO, a, ALL);
            gives(0x1C, ZERO, a, ALL);
            gives(0x1D, ALL, a, ALL);
            gives(0x1D, ALL, a, LEAST);
            gives(0x1D, ZERO, a, MOST);
        }
    }

    /** BYTES of a NUMBER: 32, the highest first; a long of the face is one without sign. */
    private void spelling() {
        ContractMachine x = new ContractMachine();
        x.environment(2, -1);
        x.environment(3, Long.MIN_VALUE);
        x.balance(2, -1, Long.MIN_VALUE);
        Check.code(x, 2, "42600052 43602052 47604052 7F 0102030405060708" + "00".repeat(23)
            + "FF 606052 60806000F3");
        check.same("run", Check.run(x, 1, 2, 0, 9999), 1);
        long[] due = {0, 0, 0, -1, 0, 0, 0, Long.MIN_VALUE, 0, 0, -1, Long.MIN_VALUE, 0x0102030405060708L, 0, 0, 255};
        for (int k = 0; k < due.length; k++) {
            check.same("word(" + 8 * k + ")", x.word(8 * k), due[k]);
        }
    }
}
