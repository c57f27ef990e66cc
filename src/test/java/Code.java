import java.math.BigInteger;

/** Texts of hexadecimal digits for the CODE of tests. */
final class Code {
    /** PUSH32 of the highest NUMBER. */
    static final String ALL = "7F" + "FF".repeat(32);
    /** MSTORE at 0 and RETURN of these 32 bytes; it costs 15 gas, 3 of them for MEMORY. */
    static final String TELL = "600052 60206000F3";

    private Code() {
    }

    /** PUSH1 to PUSH8 of a long without sign, as short as it can be. */
    static String push(long v) {
        return push(new BigInteger(Long.toUnsignedString(v)));
    }

    static String push(BigInteger v) {
        int n = Math.max(1, (v.bitLength() + 7) / 8);
        return String.format("%02X%0" + 2 * n + "X ", 0x5F + n, v);
    }

    /** PUSH32, whatever the NUMBER is. */
    static String push32(BigInteger v) {
        return String.format("7F%064X ", v);
    }

    static String bare(int op) {
        return String.format("%02X ", op);
    }

    /** The NUMBERS a, b .. in the order in which a step takes them, then the step. */
    static String step(int op, long... operands) {
        StringBuilder code = new StringBuilder();
        for (int k = operands.length - 1; k >= 0; k--) {
            code.append(push(operands[k]));
        }
        return code + bare(op);
    }

    /** A call without DATA and room; the value counts for CALL and CALLCODE alone. */
    static String call(int op, long gas, long to, long value) {
        return call(op, gas, to, value, 0, 0, 0, 0);
    }

    static String call(int op, long gas, long to, long value, long d, long e, long f, long g) {
        return op == 0xF1 || op == 0xF2 ? step(op, gas, to, value, d, e, f, g) : step(op, gas, to, d, e, f, g);
    }
}
