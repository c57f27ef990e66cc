import java.util.Arrays;

/**
 * Calls the class and the reference alike and complains where they part. What comes after 512 calls is free by the
 * document, but the class does not count them, so a long life is compared to its end.
 */
final class Both {
    final ContractMachine x = new ContractMachine();
    final ReferenceMachine y = new ReferenceMachine();
    final Check check;
    final String name;

    Both(Check check, String name) {
        this.check = check;
        this.name = name;
    }

    private static String outcome(Check.Call call) {
        try {
            return Long.toString(call.answer());
        } catch (RuntimeException e) {
            return "throws " + e.getClass().getName();
        }
    }

    /** What both answered. */
    String same(String what, Check.Call ours, Check.Call due) {
        String a = outcome(ours);
        String b = outcome(due);
        check.same(name + ": " + what + " (" + a + ", due " + b + ")", a.equals(b) ? 0 : 1, 0);
        return b;
    }

    void tape(byte[] bytes) {
        same("end(0)", () -> x.end(0), () -> y.end(0));
        byte[] p = Arrays.copyOf(bytes, (bytes.length + 19) / 20 * 20);
        for (int k = 0; k < bytes.length; k += 20) {
            int at = k;
            int[] w = new int[5];
            for (int j = 0; j < 5; j++) {
                w[j] = Check.four(p, at + 4 * j);
            }
            same("feed", () -> x.feed(w[0], w[1], w[2], w[3], w[4]), () -> y.feed(w[0], w[1], w[2], w[3], w[4]));
        }
        same("end", () -> x.end(bytes.length), () -> y.end(bytes.length));
    }

    void code(long address, byte[] bytes) {
        tape(bytes);
        same("code(" + address + ")", () -> x.code(address), () -> y.code(address));
    }

    void balance(long address, long high, long low) {
        same("balance(" + address + ", " + high + ", " + low + ")", () -> {
            x.balance(address, high, low);
            return 0;
        }, () -> {
            y.balance(address, high, low);
            return 0;
        });
    }

    void store(long address, long p, long high, long low) {
        same("store(" + address + ", " + p + ", " + high + ", " + low + ")", () -> {
            x.store(address, p, high, low);
            return 0;
        }, () -> {
            y.store(address, p, high, low);
            return 0;
        });
    }

    void environment(int what, long v) {
        same("environment(" + what + ", " + v + ")", () -> {
            x.environment(what, v);
            return 0;
        }, () -> {
            y.environment(what, v);
            return 0;
        });
    }

    String run(long from, long to, long value, int gas) {
        String what = "run(" + from + ", " + to + ", " + value + ", " + gas + ")";
        return same(what, () -> x.run(from, to, value, gas), () -> y.run(from, to, value, gas));
    }

    /** All that can be asked about the latest RUN. */
    void askAboutRun() {
        for (int k = -1; k <= 7; k++) {
            int what = k;
            same("told(" + what + ")", () -> x.told(what), () -> y.told(what));
        }
        int length = y.told(4);
        for (int k = -1; k < length + 9; k += k < 200 || k > length - 20 ? 1 + k % 7 / 2 : 97) {
            int i = k;
            same("word(" + i + ")", () -> x.word(i), () -> y.word(i));
        }
        int logs = y.told(2);
        for (int k = -1; k <= logs; k++) {
            for (int w = -1; w <= 7; w++) {
                int i = k;
                int what = w;
                same("log(" + i + ", " + what + ")", () -> x.log(i, what), () -> y.log(i, what));
            }
            for (int j = -1; j < 80; j += 3) {
                int i = k;
                int from = j;
                same("logWord(" + i + ", " + from + ")", () -> x.logWord(i, from), () -> y.logWord(i, from));
            }
        }
    }

    void askAboutWorld(long[] addresses, long[] places) {
        for (long address : addresses) {
            for (int k = 0; k < 4; k++) {
                int part = k;
                same("balanceOf(" + address + ", " + part + ")", () -> x.balanceOf(address, part),
                    () -> y.balanceOf(address, part));
                for (long p : places) {
                    same("stored(" + address + ", 0, 0, 0, " + p + ", " + part + ")",
                        () -> x.stored(address, 0, 0, 0, p, part), () -> y.stored(address, 0, 0, 0, p, part));
                }
            }
            same("codeSize(" + address + ")", () -> x.codeSize(address), () -> y.codeSize(address));
        }
    }
}
