import java.math.BigInteger;

/** KECCAK written a second time, by its definition, so that the tests have something to compare with. */
final class ReferenceKeccak {
    private static final int RATE = 136;

    private ReferenceKeccak() {
    }

    /** The pad is 0x01 for Ethereum's, 0x06 for SHA3-256, which the Java library has too. */
    static byte[] digest(byte[] bytes, int pad) {
        byte[] padded = new byte[(bytes.length / RATE + 1) * RATE];
        System.arraycopy(bytes, 0, padded, 0, bytes.length);
        padded[bytes.length] ^= (byte) pad;
        padded[padded.length - 1] ^= (byte) 0x80;
        long[][] lanes = new long[5][5];
        for (int from = 0; from < padded.length; from += RATE) {
            for (int k = 0; k < RATE; k++) {
                int lane = k / 8;
                lanes[lane % 5][lane / 5] ^= (padded[from + k] & 255L) << 8 * (k % 8);
            }
            lanes = permute(lanes);
        }
        byte[] answer = new byte[32];
        for (int k = 0; k < 32; k++) {
            answer[k] = (byte) (lanes[k / 8][0] >>> 8 * (k % 8));
        }
        return answer;
    }

    static BigInteger number(byte[] bytes) {
        return new BigInteger(1, digest(bytes, 0x01));
    }

    private static long[][] permute(long[][] start) {
        long[][] a = start;
        int register = 1;
        for (int round = 0; round < 24; round++) {
            long[] column = new long[5];
            for (int x = 0; x < 5; x++) {
                column[x] = a[x][0] ^ a[x][1] ^ a[x][2] ^ a[x][3] ^ a[x][4];
            }
            long[][] b = new long[5][5];
            int[][] turns = turns();
            for (int x = 0; x < 5; x++) {
                for (int y = 0; y < 5; y++) {
                    long mixed = a[x][y] ^ column[(x + 4) % 5] ^ Long.rotateLeft(column[(x + 1) % 5], 1);
                    b[y][(2 * x + 3 * y) % 5] = Long.rotateLeft(mixed, turns[x][y]);
                }
            }
            a = new long[5][5];
            for (int x = 0; x < 5; x++) {
                for (int y = 0; y < 5; y++) {
                    a[x][y] = b[x][y] ^ ~b[(x + 1) % 5][y] & b[(x + 2) % 5][y];
                }
            }
            for (int j = 0; j <= 6; j++) {
                if ((register & 1) != 0) {
                    a[0][0] ^= 1L << (1 << j) - 1;
                }
                register = register << 1;
                if ((register & 0x100) != 0) {
                    register ^= 0x171;
                }
            }
        }
        return a;
    }

    private static int[][] turns() {
        int[][] turns = new int[5][5];
        int x = 1;
        int y = 0;
        for (int t = 0; t < 24; t++) {
            turns[x][y] = (t + 1) * (t + 2) / 2 % 64;
            int next = (2 * x + 3 * y) % 5;
            x = y;
            y = next;
        }
        return turns;
    }
}
