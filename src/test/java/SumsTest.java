import java.math.BigInteger;
import java.util.ArrayList;
import java.util.List;
import java.util.Random;

/** What the steps 01 .. 1D give (promise 8): known answers, edges against edges, and chance. */
public final class SumsTest {
    private static final BigInteger ALL = ReferenceMachine.ALL;
    private static final BigInteger HALF = ReferenceMachine.HALF;
    private static final int[] TWO = {1, 2, 3, 4, 5, 6, 7, 0x0A, 0x0B, 0x10, 0x11, 0x12, 0x13, 0x14, 0x16, 0x17,
        0x18, 0x1A, 0x1B, 0x1C, 0x1D};

    private SumsTest() {
    }

    public static void main(String[] args) {
        Check check = new Check();
        known(check);
        edges(check);
        chance(check);
        check.finish("SumsTest");
    }

    private static BigInteger n(String hex) {
        return new BigInteger(hex, 16);
    }

    private static BigInteger minus(long v) {
        return ALL.add(BigInteger.ONE).subtract(BigInteger.valueOf(v));
    }

    private static void known(Check check) {
        BigInteger two = BigInteger.TWO;
        BigInteger one = BigInteger.ONE;
        BigInteger zero = BigInteger.ZERO;
        BigInteger ten = BigInteger.TEN;
        BigInteger three = BigInteger.valueOf(3);
        step(check, 0x01, one, ALL, two);
        step(check, 0x02, minus(2), HALF.subtract(one), two);
        step(check, 0x03, minus(1), one, two);
        step(check, 0x04, three, ten, three);
        step(check, 0x04, zero, ten, zero);
        step(check, 0x05, minus(3), minus(10), three);
        step(check, 0x05, minus(3), ten, minus(3));
        step(check, 0x05, HALF, HALF, ALL);
        step(check, 0x05, zero, minus(10), zero);
        step(check, 0x06, one, ten, three);
        step(check, 0x06, zero, ten, zero);
        step(check, 0x07, minus(1), minus(10), three);
        step(check, 0x07, one, ten, minus(3));
        step(check, 0x07, zero, minus(10), zero);
        step(check, 0x07, zero, HALF, ALL);
        step(check, 0x08, ALL.subtract(one), ALL, ALL.subtract(one), ALL);
        step(check, 0x08, two, ALL, ALL, ALL.subtract(one));
        step(check, 0x08, BigInteger.valueOf(4), ten, ten, BigInteger.valueOf(8));
        step(check, 0x08, zero, ten, ten, zero);
        step(check, 0x09, zero, ALL, ALL, ALL);
        step(check, 0x09, BigInteger.valueOf(9), ALL, ALL, BigInteger.valueOf(12));
        step(check, 0x09, zero, ten, ten, zero);
        step(check, 0x0A, BigInteger.valueOf(1024), two, ten);
        step(check, 0x0A, one, zero, zero);
        step(check, 0x0A, zero, two, BigInteger.valueOf(256));
        step(check, 0x0A, ALL, ALL, ALL);
        step(check, 0x0B, ALL, zero, n("FF"));
        step(check, 0x0B, n("7F"), zero, n("FF7F"));
        step(check, 0x0B, n("FF7F"), BigInteger.valueOf(31), n("FF7F"));
        step(check, 0x0B, HALF.add(one), BigInteger.valueOf(31), HALF.add(one));
        step(check, 0x0B, one, BigInteger.valueOf(30), HALF.add(one));
        step(check, 0x0B, n("80"), one.shiftLeft(64), n("80"));
        step(check, 0x12, one, ALL, zero);
        step(check, 0x13, zero, ALL, zero);
        step(check, 0x10, zero, ALL, zero);
        step(check, 0x1A, n("12"), zero, n("12").shiftLeft(248));
        step(check, 0x1A, n("34"), BigInteger.valueOf(31), n("1234"));
        step(check, 0x1A, zero, BigInteger.valueOf(32), ALL);
        step(check, 0x1A, zero, one.shiftLeft(32), ALL);
        step(check, 0x1B, HALF, BigInteger.valueOf(255), three);
        step(check, 0x1B, zero, BigInteger.valueOf(256), three);
        step(check, 0x1C, one, BigInteger.valueOf(255), HALF);
        step(check, 0x1C, zero, one.shiftLeft(255), ALL);
        step(check, 0x1D, ALL, BigInteger.valueOf(255), HALF);
        step(check, 0x1D, ALL, BigInteger.valueOf(300), HALF);
        step(check, 0x1D, zero, BigInteger.valueOf(300), HALF.subtract(one));
        step(check, 0x1D, minus(2), one, minus(3));
    }

    private static String push(BigInteger v) {
        return "7F" + String.format("%064X", v);
    }

    /** The operands come a first; due is what the step gives. */
    private static void step(Check check, int op, BigInteger due, BigInteger... operands) {
        StringBuilder code = new StringBuilder();
        StringBuilder what = new StringBuilder(String.format("%02X of", op));
        for (int k = operands.length - 1; k >= 0; k--) {
            code.append(push(operands[k]));
        }
        for (BigInteger operand : operands) {
            what.append(" ").append(operand.toString(16));
        }
        ContractMachine x = new ContractMachine();
        Check.code(x, 2, code + String.format("%02X", op) + "600052 60206000F3");
        check.same(what + " ends", Check.run(x, 1, 2, 0, 5000), 1);
        for (int part = 0; part < 4; part++) {
            check.same(what + " part " + part, x.word(8 * part), due.shiftRight(192 - 64 * part).longValue());
        }
    }

    private static void edges(Check check) {
        List<BigInteger> some = new ArrayList<>();
        for (int shift : new int[] {0, 1, 31, 32, 33, 64, 127, 128, 224, 254, 255}) {
            some.add(BigInteger.ONE.shiftLeft(shift));
            some.add(BigInteger.ONE.shiftLeft(shift).subtract(BigInteger.ONE));
            some.add(ALL.subtract(BigInteger.ONE.shiftLeft(shift)));
        }
        some.add(ALL);
        some.add(n("80000000FFFFFFFF00000000FFFFFFFF"));
        some.add(n("FFFFFFFE00000001FFFFFFFFFFFFFFFF0000000000000001"));
        some.add(BigInteger.valueOf(30));
        some.add(BigInteger.valueOf(256));
        for (BigInteger a : some) {
            for (BigInteger b : some) {
                compareAll(new Both(check, "edges"), a, b, a.xor(b).shiftRight(3));
            }
        }
    }

    private static void chance(Check check) {
        Random random = new Random(11);
        RandomPrograms programs = new RandomPrograms(random, new long[] {1});
        for (int k = 0; k < 4000; k++) {
            compareAll(new Both(check, "chance"), programs.number(), programs.number(), programs.number());
            compareAll(new Both(check, "limbs"), programs.limbs(), programs.limbs(), programs.limbs());
        }
    }

    /** One program that gives what every step gives of these NUMBERS. */
    private static void compareAll(Both both, BigInteger a, BigInteger b, BigInteger c) {
        StringBuilder code = new StringBuilder(push(c) + push(b) + push(a));
        int at = 0;
        for (int op : TWO) {
            code.append(String.format("8181%02X61%04X52", op, 32 * at++));
        }
        code.append(String.format("82828208 61%04X52 82828209 61%04X52", 32 * at, 32 * at + 32));
        at += 2;
        code.append(String.format("8015 61%04X52 8019 61%04X52", 32 * at, 32 * at + 32));
        at += 2;
        code.append(String.format("61%04X6000F3", 32 * at));
        both.code(2, Check.bytes(code.toString()));
        String what = a.toString(16) + " " + b.toString(16) + " " + c.toString(16);
        both.run(1, 2, 0, 10000);
        for (int k = 0; k < 4 * at; k++) {
            int i = 8 * k;
            both.same(what + " number " + k / 4, () -> both.x.word(i), () -> both.y.word(i));
        }
        both.same(what + " gas", () -> both.x.told(0), () -> both.y.told(0));
    }
}
