import java.security.MessageDigest;
import java.security.NoSuchAlgorithmException;
import java.util.Arrays;

/** Promises 2 feed, 3 end, 16 keccak. */
public final class TapeTest {
    private TapeTest() {
    }

    public static void main(String[] args) throws NoSuchAlgorithmException {
        Check check = new Check();
        feedAndEnd(check);
        full(check);
        knownDigests(check);
        lengths(check);
        check.finish("TapeTest");
    }

    private static void feedAndEnd(Check check) {
        ContractMachine x = new ContractMachine();
        Check.code(x, 2, "366000600037 366000F3");
        check.same("feed", x.feed(0x01020304, 0x05060708, 0x090A0B0C, 0x0D0E0F10, 0x11121314), 20);
        check.same("feed again", x.feed(-1, 0x80000000, 0, 1, 0xFFFFFFFE), 40);
        check.thrown("end(-1)", IllegalArgumentException.class, () -> x.end(-1));
        check.thrown("end(41)", IllegalArgumentException.class, () -> x.end(41));
        check.thrown("end(least)", IllegalArgumentException.class, () -> x.end(Integer.MIN_VALUE));
        check.thrown("end(most)", IllegalArgumentException.class, () -> x.end(Integer.MAX_VALUE));
        check.same("end(40)", x.end(40), 40);
        check.same("end(25)", x.end(25), 25);
        check.thrown("end(26)", IllegalArgumentException.class, () -> x.end(26));
        check.same("feed behind 25", x.feed(0xA1A2A3A4, 0, 0, 0, 0xB1B2B3B4), 45);
        check.same("answers DATA", x.run(1, 2, 0, 1000), 1);
        check.same("bytes", x.told(4), 45);
        check.same("from 0", x.word(0), 0x0102030405060708L);
        check.same("from 12", x.word(12), 0x0D0E0F1011121314L);
        check.same("from 20", x.word(20), 0xFFFFFFFF80A1A2A3L);
        check.same("from 29", x.word(29), 0);
        check.same("from 41", x.word(41), 0xB1B2B3B400000000L);
        check.thrown("the TAPE is empty behind a RUN", IllegalArgumentException.class, () -> x.end(1));
        check.same("feed anew", x.feed(1, 2, 3, 4, 5), 20);
    }

    private static void full(Check check) {
        ContractMachine x = new ContractMachine();
        for (int k = 1; k <= 1228; k++) {
            check.same("feed", x.feed(k, k, k, k, k), 20 * k);
        }
        check.thrown("one more", IndexOutOfBoundsException.class, () -> x.feed(1, 1, 1, 1, 1));
        check.same("its length stays", x.end(24557), 24557);
        check.thrown("17 before the end", IndexOutOfBoundsException.class, () -> x.feed(1, 1, 1, 1, 1));
        check.same("end", x.end(24556), 24556);
        check.same("the last one that goes in", x.feed(1, 1, 1, 1, 1), 24576);
        check.thrown("full", IndexOutOfBoundsException.class, () -> x.feed(1, 1, 1, 1, 1));
    }

    private static void knownDigests(Check check) {
        ContractMachine x = new ContractMachine();
        check.same("KECCAK of nothing", x.keccak(0), 0xC5D2460186F7233CL);
        check.same("KECCAK of nothing", x.keccak(1), 0x927E7DB2DCC703C0L);
        check.same("KECCAK of nothing", x.keccak(2), 0xE500B653CA82273BL);
        check.same("KECCAK of nothing", x.keccak(3), 0x7BFAD8045D85A470L);
        Check.tape(x, "616263");
        check.same("KECCAK of abc", x.keccak(0), 0x4E03657AEA45A94FL);
        check.same("KECCAK of abc", x.keccak(1), 0xC7D47BA826C8D667L);
        check.same("KECCAK of abc", x.keccak(2), 0xC0D1E6E33A64A036L);
        check.same("KECCAK of abc", x.keccak(3), 0xEC44F58FA12D6C45L);
        check.same("the TAPE stays", x.end(3), 3);
        check.thrown("keccak(-1)", IllegalArgumentException.class, () -> x.keccak(-1));
        check.thrown("keccak(4)", IllegalArgumentException.class, () -> x.keccak(4));
    }

    private static void lengths(Check check) throws NoSuchAlgorithmException {
        MessageDigest library = MessageDigest.getInstance("SHA3-256");
        for (int n = 0; n < 420; n += n > 130 && n < 140 || n > 268 && n < 276 ? 1 : 7) {
            byte[] bytes = new byte[n];
            for (int k = 0; k < n; k++) {
                bytes[k] = (byte) (k * 37 + n);
            }
            if (!Arrays.equals(library.digest(bytes), ReferenceKeccak.digest(bytes, 0x06))) {
                check.complain("the reference is wrong for " + n);
            }
            ContractMachine x = new ContractMachine();
            Check.tape(x, bytes);
            for (int part = 0; part < 4; part++) {
                check.same("keccak(" + part + ") of " + n + " bytes", x.keccak(part),
                    ReferenceKeccak.number(bytes).shiftRight(192 - 64 * part).longValue());
            }
        }
    }
}
