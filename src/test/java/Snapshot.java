import java.util.ArrayList;
import java.util.List;

/** All that can be asked of an object at one time, to see that a call that throws changed nothing of it. */
final class Snapshot {
    private final ContractMachine x;
    private final long[] addresses;
    private final List<String> before;

    Snapshot(ContractMachine x, long... addresses) {
        this.x = x;
        this.addresses = addresses;
        before = ask();
    }

    private List<String> ask() {
        List<String> told = new ArrayList<>();
        for (int k = 0; k <= 6; k++) {
            told.add("told(" + k + ") " + x.told(k));
        }
        for (int i = 0; i < x.told(4); i++) {
            told.add("word(" + i + ") " + x.word(i));
        }
        for (int i = 0; i < x.told(2); i++) {
            for (int what = 0; what < 3 + x.log(i, 1); what++) {
                told.add("log(" + i + ", " + what + ") " + x.log(i, what));
            }
            for (int j = 0; j < x.log(i, 2); j++) {
                told.add("logWord(" + i + ", " + j + ") " + x.logWord(i, j));
            }
        }
        for (long address : addresses) {
            askAbout(address, told);
        }
        for (int part = 0; part < 4; part++) {
            told.add("keccak(" + part + ") " + x.keccak(part));
        }
        return told;
    }

    private void askAbout(long address, List<String> told) {
        told.add("codeSize(" + address + ") " + x.codeSize(address));
        for (int part = 0; part < 4; part++) {
            told.add("balanceOf(" + address + ", " + part + ") " + x.balanceOf(address, part));
            for (int p = 0; p < 4; p++) {
                told.add("stored(" + address + ", " + p + ", " + part + ") "
                    + x.stored(address, 0, 0, 0, p, part));
            }
        }
    }

    /** Complains about all that is not as it was. */
    void look(Check check, String what) {
        List<String> now = ask();
        check.same(what + ": how much can be asked", now.size(), before.size());
        for (int k = 0; k < Math.min(now.size(), before.size()); k++) {
            check.same(what + ": " + now.get(k) + ", it was " + before.get(k),
                now.get(k).equals(before.get(k)) ? 0 : 1, 0);
        }
    }
}
