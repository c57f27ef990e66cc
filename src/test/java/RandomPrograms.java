import java.io.ByteArrayOutputStream;
import java.math.BigInteger;
import java.util.Random;

/** CODE by chance, but such that much of it has something to do. */
final class RandomPrograms {
    private static final int[] SUMS = {1, 2, 3, 4, 5, 6, 7, 0x0A, 0x0B, 0x10, 0x11, 0x12, 0x13, 0x14, 0x16, 0x17,
        0x18, 0x1A, 0x1B, 0x1C, 0x1D};
    private static final int[] GIVERS = {0x30, 0x32, 0x33, 0x34, 0x36, 0x38, 0x3A, 0x3D, 0x41, 0x42, 0x43, 0x44,
        0x45, 0x46, 0x47, 0x58, 0x59, 0x5A};
    private static final long[] EDGES = {0, 1, 2, 3, 0x7FFFFFFFL, 0x80000000L, 0x80000001L, 0xFFFFFFFEL, 0xFFFFFFFFL};
    private static final int[] CALLS = {0xF1, 0xF1, 0xF2, 0xF4, 0xFA};

    private final Random random;
    private final long[] addresses;
    private ByteArrayOutputStream out;

    RandomPrograms(Random random, long[] addresses) {
        this.random = random;
        this.addresses = addresses;
    }

    byte[] noise(int most) {
        byte[] bytes = new byte[random.nextInt(most + 1)];
        random.nextBytes(bytes);
        return bytes;
    }

    BigInteger number() {
        switch (random.nextInt(9)) {
            case 0: return BigInteger.ZERO;
            case 1: return BigInteger.valueOf(random.nextInt(300));
            case 2: return ReferenceMachine.ALL.subtract(BigInteger.valueOf(random.nextInt(300)));
            case 3: return BigInteger.ONE.shiftLeft(random.nextInt(256));
            case 4: return BigInteger.ONE.shiftLeft(random.nextInt(256)).subtract(BigInteger.ONE);
            case 5: return new BigInteger(random.nextInt(257), random);
            case 6: return new BigInteger(256, random);
            case 7: return ReferenceMachine.HALF.add(BigInteger.valueOf(random.nextInt(3) - 1));
            default: return limbs();
        }
    }

    /** Such limbs are where a division guesses wrongly. */
    BigInteger limbs() {
        BigInteger n = BigInteger.ZERO;
        for (int k = 0; k < 8; k++) {
            long limb = random.nextInt(5) == 0 ? random.nextInt() & 0xFFFFFFFFL : EDGES[random.nextInt(EDGES.length)];
            n = n.shiftLeft(32).or(BigInteger.valueOf(limb));
        }
        return n.shiftRight(32 * random.nextInt(8));
    }

    private void push(BigInteger v) {
        int bits = Math.max(1, (v.bitLength() + 7) / 8);
        int n = random.nextInt(10) == 0 ? 32 : bits;
        out.write(0x5F + n);
        for (int k = n - 1; k >= 0; k--) {
            out.write(v.shiftRight(8 * k).byteValue());
        }
    }

    private void push(long v) {
        push(BigInteger.valueOf(v));
    }

    private void pushSmall() {
        if (random.nextInt(60) == 0) {
            push(number());
        } else {
            push(random.nextInt(random.nextInt(4) == 0 ? 700 : 100));
        }
    }

    private void pushAddress() {
        int kind = random.nextInt(12);
        if (kind == 0) {
            push(number());
        } else if (kind == 1) {
            push(BigInteger.valueOf(random.nextInt(4)).shiftLeft(80 + random.nextInt(90)));
        } else {
            push(addresses[random.nextInt(addresses.length)]);
        }
    }

    private void pushPlace() {
        push(random.nextInt(random.nextInt(5) == 0 ? 40 : 4));
    }

    byte[] program(int pieces) {
        out = new ByteArrayOutputStream();
        for (int k = 0; k < pieces; k++) {
            piece();
        }
        switch (random.nextInt(6)) {
            case 0: break;
            case 1: out.write(0); break;
            case 2: pushSmall(); pushSmall(); out.write(0xFD); break;
            default: pushSmall(); pushSmall(); out.write(0xF3); break;
        }
        return out.toByteArray();
    }

    private void piece() {
        switch (random.nextInt(22)) {
            case 0: case 1: sum(); break;
            case 2: giver(); break;
            case 3: push(number()); pushSmall(); out.write(random.nextInt(4) == 0 ? 0x53 : 0x52); break;
            case 4: pushSmall(); out.write(0x51); break;
            case 5: case 6: case 7: sstore(); break;
            case 8: pushPlace(); out.write(0x54); break;
            case 9: case 10: case 11: case 12: case 13: call(); break;
            case 14: log(); break;
            case 15: copy(); break;
            case 16: look(); break;
            case 17: jump(); break;
            case 18: pushSmall(); pushSmall(); out.write(0x20); keep(); break;
            case 19: shuffle(); break;
            case 20: loop(1 + random.nextInt(30)); break;
            default: rare(); break;
        }
    }

    /** What was given comes to STORAGE or MEMORY, where it is seen at the end. */
    private void keep() {
        if (random.nextInt(3) == 0) {
            pushPlace();
            out.write(0x55);
        } else {
            push(32L * random.nextInt(8));
            out.write(0x52);
        }
    }

    private void sum() {
        if (random.nextInt(5) == 0) {
            push(number());
            push(number());
            push(number());
            out.write(random.nextBoolean() ? 8 : 9);
        } else if (random.nextInt(8) == 0) {
            push(number());
            out.write(random.nextBoolean() ? 0x15 : 0x19);
        } else {
            int op = SUMS[random.nextInt(SUMS.length)];
            push(number());
            push(random.nextBoolean() ? number() : BigInteger.valueOf(random.nextInt(40)));
            out.write(op);
        }
        keep();
    }

    private void giver() {
        out.write(GIVERS[random.nextInt(GIVERS.length)]);
        keep();
    }

    private void sstore() {
        push(random.nextInt(3) == 0 ? BigInteger.ZERO : BigInteger.valueOf(random.nextInt(3)));
        pushPlace();
        out.write(0x55);
    }

    private void call() {
        int op = CALLS[random.nextInt(CALLS.length)];
        pushSmall();
        pushSmall();
        pushSmall();
        pushSmall();
        if (op == 0xF1 || op == 0xF2) {
            push(random.nextInt(3) != 0 ? 0 : random.nextInt(5) == 0 ? 1 << random.nextInt(30) : random.nextInt(6));
        }
        pushAddress();
        switch (random.nextInt(4)) {
            case 0: out.write(0x5A); break;
            case 1: push(random.nextInt(60000)); break;
            case 2: push(number()); break;
            default: push(30000 + random.nextInt(40000)); break;
        }
        out.write(op);
        keep();
    }

    private void log() {
        int n = random.nextInt(5);
        for (int k = 0; k < n; k++) {
            push(number());
        }
        pushSmall();
        pushSmall();
        out.write(0xA0 + n);
    }

    private void copy() {
        int kind = random.nextInt(4);
        pushSmall();
        pushSmall();
        pushSmall();
        if (kind == 0) {
            pushAddress();
        }
        out.write(kind == 0 ? 0x3C : kind == 1 ? 0x37 : kind == 2 ? 0x39 : 0x3E);
    }

    private void look() {
        int kind = random.nextInt(4);
        if (kind == 3) {
            pushSmall();
            out.write(0x35);
        } else {
            pushAddress();
            out.write(kind == 0 ? 0x31 : kind == 1 ? 0x3B : 0x3F);
        }
        keep();
    }

    private void jump() {
        push(random.nextInt(2));
        int to = out.size() + 4 + random.nextInt(3);
        out.write(0x61);
        out.write(to >> 8);
        out.write(to);
        out.write(0x57);
        out.write(0x5B);
        out.write(0x5B);
        if (random.nextInt(4) == 0) {
            out.write(0x60);
            out.write(0x5B);
            out.write(0x50);
        }
    }

    private void loop(int times) {
        push(times);
        int start = out.size();
        out.write(0x5B);
        switch (random.nextInt(4)) {
            case 0: call(); break;
            case 1: log(); break;
            case 2: sum(); break;
            default: sstore(); break;
        }
        out.write(0x60);
        out.write(1);
        out.write(0x90);
        out.write(0x03);
        loopBack(start);
    }

    private void loopBack(int start) {
        out.write(0x80);
        out.write(0x61);
        out.write(start >> 8);
        out.write(start);
        out.write(0x57);
    }

    /** For k = times .. 1: something that uses k and comes near a LIMIT. */
    byte[] greedy(int kind, int times) {
        out = new ByteArrayOutputStream();
        push(times);
        int start = out.size();
        out.write(0x5B);
        int base = random.nextInt(40);
        switch (kind) {
            case 0: // k at place base + k
                out.write(0x80);
                out.write(0x80);
                push(base);
                out.write(0x01);
                out.write(0x55);
                break;
            case 1: // a LOG of so many bytes
                push(random.nextInt(50));
                push(random.nextInt(50));
                out.write(0xA0);
                break;
            default: // 1 to the ACCOUNT base + 100 + k
                for (int k = 0; k < 4; k++) {
                    push(0);
                }
                push(1);
                out.write(0x85);
                push(base + 100);
                out.write(0x01);
                push(random.nextInt(3) * 5000);
                out.write(0xF1);
                out.write(0x50);
                break;
        }
        out.write(0x60);
        out.write(1);
        out.write(0x90);
        out.write(0x03);
        loopBack(start);
        switch (random.nextInt(4)) {
            case 0: push(0); push(0); out.write(0xFD); break;
            case 1: pushAddress(); out.write(0xFF); break;
            default: break;
        }
        return out.toByteArray();
    }

    private void shuffle() {
        for (int k = 0; k < 3 + random.nextInt(17); k++) {
            push(number());
        }
        for (int k = 0; k < 6; k++) {
            out.write(0x80 + random.nextInt(32) % (16 + random.nextInt(17)) % 32);
        }
        keep();
    }

    private void rare() {
        switch (random.nextInt(7)) {
            case 0: pushAddress(); out.write(0xFF); break;
            case 1: out.write(random.nextInt(256)); break;
            case 2: pushSmall(); pushSmall(); out.write(0xFD); break;
            case 3: out.write(0); break;
            case 4: out.write(0xFE); break;
            default: out.write(0x50); break;
        }
    }
}
