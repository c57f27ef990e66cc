import java.util.Arrays;

/** What every test needs: it counts what is wrong, and feeds texts of hexadecimal digits. */
final class Check {
    private static final int MOST_TOLD = 30;
    private int wrong;
    private int looked;

    /** A call of which it matters what it throws. */
    interface Call {
        long answer();
    }

    /** A call without an answer. */
    interface Deed {
        void happen();
    }

    void same(String what, long got, long due) {
        looked++;
        if (got != due) {
            complain(what + " answered " + got + ", due is " + due);
        }
    }

    void complain(String text) {
        wrong++;
        if (wrong <= MOST_TOLD) {
            System.out.println(text);
        }
    }

    int wrong() {
        return wrong;
    }

    void thrown(String what, Class<?> due, Call call) {
        looked++;
        try {
            complain(what + " answered " + call.answer() + ", due is " + due.getSimpleName());
        } catch (RuntimeException e) {
            if (e.getClass() != due) {
                complain(what + " threw " + e + ", due is " + due.getSimpleName());
            }
        }
    }

    void thrown(String what, Class<?> due, Deed deed) {
        thrown(what, due, (Call) () -> {
            deed.happen();
            return 0;
        });
    }

    void finish(String name) {
        System.out.println(name + ": " + looked + " looked at, " + wrong + " wrong");
        if (wrong != 0) {
            System.exit(1);
        }
    }

    static byte[] bytes(String hex) {
        String digits = hex.replace(" ", "");
        byte[] bytes = new byte[digits.length() / 2];
        for (int k = 0; k < bytes.length; k++) {
            bytes[k] = (byte) Integer.parseInt(digits.substring(2 * k, 2 * k + 2), 16);
        }
        return bytes;
    }

    static int four(byte[] bytes, int from) {
        byte[] four = Arrays.copyOfRange(bytes, from, from + 4);
        return four[0] << 24 | (four[1] & 255) << 16 | (four[2] & 255) << 8 | four[3] & 255;
    }

    /** Makes the TAPE just these bytes. */
    static void tape(ContractMachine x, byte[] bytes) {
        x.end(0);
        byte[] padded = Arrays.copyOf(bytes, (bytes.length + 19) / 20 * 20);
        for (int at = 0; at < bytes.length; at += 20) {
            x.feed(four(padded, at), four(padded, at + 4), four(padded, at + 8), four(padded, at + 12),
                four(padded, at + 16));
        }
        x.end(bytes.length);
    }

    static void tape(ContractMachine x, String hex) {
        tape(x, bytes(hex));
    }

    static void code(ContractMachine x, long address, String hex) {
        tape(x, hex);
        x.code(address);
    }

    /** A RUN without DATA. */
    static int run(ContractMachine x, long from, long to, long value, int gas) {
        x.end(0);
        return x.run(from, to, value, gas);
    }
}
