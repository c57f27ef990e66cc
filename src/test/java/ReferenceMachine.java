import java.math.BigInteger;
import java.util.ArrayDeque;
import java.util.ArrayList;
import java.util.Arrays;
import java.util.HashMap;
import java.util.HashSet;
import java.util.List;
import java.util.Map;
import java.util.NoSuchElementException;
import java.util.Set;

/**
 * The document a second time, with BigInteger, maps and whole copies instead of rows and lists of changes.
 * It shares nothing with the class under test, so that random runs of both can be compared.
 */
final class ReferenceMachine {
    static final BigInteger ZERO = BigInteger.ZERO;
    static final BigInteger ONE = BigInteger.ONE;
    static final BigInteger ALL = ONE.shiftLeft(256).subtract(ONE);
    static final BigInteger ADDRESSES = ONE.shiftLeft(160).subtract(ONE);
    static final BigInteger HALF = ONE.shiftLeft(255);

    @SuppressWarnings("serial")
    private static final class Fails extends RuntimeException {
    }

    @SuppressWarnings("serial")
    private static final class Limit extends RuntimeException {
    }

    private record Place(BigInteger address, BigInteger number) {
    }

    private record Log(BigInteger address, List<BigInteger> topics, byte[] bytes) {
    }

    /** All that is taken back together. */
    private static final class State {
        Map<BigInteger, BigInteger> balances = new HashMap<>();
        Map<BigInteger, byte[]> codes = new HashMap<>();
        Map<Place, BigInteger> storage = new HashMap<>();
        List<Log> logs = new ArrayList<>();
        int refund;
        Set<BigInteger> touched = new HashSet<>();
        Set<Place> touchedPlaces = new HashSet<>();
        Set<BigInteger> destroyed = new HashSet<>();

        State copy() {
            State s = new State();
            s.balances.putAll(balances);
            s.codes.putAll(codes);
            s.storage.putAll(storage);
            s.logs.addAll(logs);
            s.refund = refund;
            s.touched.addAll(touched);
            s.touchedPlaces.addAll(touchedPlaces);
            s.destroyed.addAll(destroyed);
            return s;
        }

        BigInteger balance(BigInteger who) {
            return balances.getOrDefault(who, ZERO);
        }

        byte[] code(BigInteger who) {
            return codes.getOrDefault(who, new byte[0]);
        }

        BigInteger stored(BigInteger who, BigInteger p) {
            return storage.getOrDefault(new Place(who, p), ZERO);
        }

        boolean isDead(BigInteger who) {
            return balance(who).signum() == 0 && code(who).length == 0;
        }
    }

    private static final class Message {
        BigInteger sender;
        BigInteger address;
        BigInteger codeAddress;
        BigInteger value;
        byte[] data;
        boolean isStatic;
        boolean moves;
        int depth;
        long gas;
        int outcome;
        byte[] given = new byte[0];
        // while it is done
        ArrayDeque<BigInteger> stack = new ArrayDeque<>();
        byte[] memory = new byte[0];
        byte[] returned = new byte[0];
        int place;
    }

    private byte[] tape = new byte[0];
    private State world = new State();
    private Set<BigInteger> knownAccounts = new HashSet<>();
    private Set<Place> knownPlaces = new HashSet<>();
    private final long[] environment = new long[7];
    private int[] told = new int[7];
    private List<Log> logs = new ArrayList<>();
    private byte[] result = new byte[0];
    private int steps;
    private BigInteger origin;
    private State before;

    int feed(int a, int b, int c, int d, int e) {
        if (tape.length + 20 > 24576) {
            throw new IndexOutOfBoundsException();
        }
        int at = tape.length;
        tape = Arrays.copyOf(tape, at + 20);
        for (int word : new int[] {a, b, c, d, e}) {
            for (int k = 3; k >= 0; k--) {
                tape[at++] = (byte) (word >> 8 * k);
            }
        }
        return tape.length;
    }

    int end(int n) {
        range(n >= 0 && n <= tape.length);
        tape = Arrays.copyOf(tape, n);
        return n;
    }

    int code(long address) {
        range(address >= 0);
        if (tape.length > 2048) {
            throw new IndexOutOfBoundsException();
        }
        BigInteger who = number(address);
        byte[] code = tape;
        change(() -> {
            world.codes.put(who, code);
            noteAccount(who);
        });
        tape = new byte[0];
        return code.length;
    }

    void balance(long address, long high, long low) {
        range(address >= 0);
        BigInteger who = number(address);
        change(() -> {
            world.balances.put(who, number(high).shiftLeft(64).add(number(low)));
            noteAccount(who);
        });
    }

    void store(long address, long p, long high, long low) {
        range(address >= 0);
        change(() -> put(number(address), number(p), number(high).shiftLeft(64).add(number(low))));
    }

    void environment(int what, long v) {
        range(what >= 0 && what <= 6);
        environment[what] = v;
    }

    int run(long from, long to, long value, int gas) {
        range(from >= 0 && to >= 0 && gas >= 0 && gas <= 200000);
        if (world.balance(number(from)).compareTo(number(value)) < 0) {
            throw new UnsupportedOperationException();
        }
        Message m = new Message();
        int[] stepsThen = new int[1];
        change(() -> {
            steps = 0;
            origin = number(from);
            world.touched = new HashSet<>(Set.of(origin));
            world.touched.add(number(to));
            world.touchedPlaces = new HashSet<>();
            world.destroyed = new HashSet<>();
            world.logs = new ArrayList<>();
            world.refund = 0;
            before = world.copy();
            m.sender = origin;
            m.address = number(to);
            m.codeAddress = m.address;
            m.value = number(value);
            m.data = tape;
            m.gas = gas;
            m.moves = true;
            deliver(m);
            stepsThen[0] = steps;
        });
        if (m.outcome == 1) {
            for (BigInteger gone : world.destroyed) {
                world.balances.remove(gone);
                world.codes.remove(gone);
                world.storage.keySet().removeIf(p -> p.address().equals(gone));
            }
        }
        tape = new byte[0];
        result = m.given;
        logs = world.logs;
        told = new int[] {(int) m.gas, world.refund, logs.size(), stepsThen[0], result.length,
            world.touched.size(), world.touchedPlaces.size()};
        return m.outcome;
    }

    int told(int what) {
        range(what >= 0 && what <= 6);
        return told[what];
    }

    long log(int i, int what) {
        range(what >= 0 && what <= 6);
        exists(i >= 0 && i < logs.size());
        Log log = logs.get(i);
        if (what == 0) {
            return log.address().longValue();
        }
        if (what == 1) {
            return log.topics().size();
        }
        if (what == 2) {
            return log.bytes().length;
        }
        exists(what - 3 < log.topics().size());
        return log.topics().get(what - 3).longValue();
    }

    long logWord(int i, int j) {
        exists(i >= 0 && i < logs.size());
        return eight(logs.get(i).bytes(), j);
    }

    long word(int i) {
        return eight(result, i);
    }

    long balanceOf(long address, int part) {
        range(address >= 0 && part >= 0 && part <= 3);
        return world.balance(number(address)).shiftRight(64 * (3 - part)).longValue();
    }

    long stored(long address, long p3, long p2, long p1, long p0, int part) {
        range(address >= 0 && part >= 0 && part <= 3);
        BigInteger p = number(p3).shiftLeft(64).or(number(p2)).shiftLeft(64).or(number(p1)).shiftLeft(64)
            .or(number(p0));
        return world.stored(number(address), p).shiftRight(64 * (3 - part)).longValue();
    }

    int codeSize(long address) {
        range(address >= 0);
        return world.code(number(address)).length;
    }

    long keccak(int part) {
        range(part >= 0 && part <= 3);
        return ReferenceKeccak.number(tape).shiftRight(64 * (3 - part)).longValue();
    }

    private static void range(boolean in) {
        if (!in) {
            throw new IllegalArgumentException();
        }
    }

    private static void exists(boolean there) {
        if (!there) {
            throw new NoSuchElementException();
        }
    }

    private static long eight(byte[] bytes, int from) {
        exists(from >= 0 && from < bytes.length);
        byte[] eight = Arrays.copyOfRange(bytes, from, from + 8);
        return new BigInteger(eight).longValue();
    }

    static BigInteger number(long v) {
        return new BigInteger(Long.toUnsignedString(v));
    }

    /** Does something whole, or, if a LIMIT is passed, not at all. */
    private void change(Runnable something) {
        State oldWorld = world.copy();
        Set<BigInteger> oldAccounts = new HashSet<>(knownAccounts);
        Set<Place> oldPlaces = new HashSet<>(knownPlaces);
        try {
            something.run();
        } catch (Limit e) {
            world = oldWorld;
            knownAccounts = oldAccounts;
            knownPlaces = oldPlaces;
            throw new IndexOutOfBoundsException();
        }
    }

    private void noteAccount(BigInteger who) {
        if (!world.isDead(who) && knownAccounts.add(who) && knownAccounts.size() > 64) {
            throw new Limit();
        }
    }

    private void put(BigInteger who, BigInteger p, BigInteger v) {
        Place place = new Place(who, p);
        world.storage.put(place, v);
        if (v.signum() != 0) {
            if (knownAccounts.add(who) && knownAccounts.size() > 64) {
                throw new Limit();
            }
            if (knownPlaces.add(place) && knownPlaces.size() > 400) {
                throw new Limit();
            }
        }
    }

    private void move(BigInteger from, BigInteger to, BigInteger amount) {
        world.balances.put(from, world.balance(from).subtract(amount));
        world.balances.put(to, world.balance(to).add(amount));
        noteAccount(to);
    }

    private void deliver(Message m) {
        State then = world.copy();
        try {
            if (m.moves) {
                move(m.sender, m.address, m.value);
            }
            m.outcome = -1;
            byte[] code = world.code(m.codeAddress);
            while (m.outcome < 0) {
                steps++;
                step(m, code);
            }
        } catch (Fails e) {
            m.outcome = 0;
            m.gas = 0;
            m.given = new byte[0];
        }
        if (m.outcome != 1) {
            world = then;
        }
    }

    private static boolean isJumpdest(byte[] code, BigInteger to) {
        if (to.compareTo(BigInteger.valueOf(code.length)) >= 0) {
            return false;
        }
        int place = to.intValue();
        int k = 0;
        while (k < place) {
            int op = code[k] & 255;
            k += op >= 0x60 && op <= 0x7F ? op - 0x60 + 2 : 1;
        }
        return k == place && (code[k] & 255) == 0x5B;
    }

    private static BigInteger pop(Message m) {
        if (m.stack.isEmpty()) {
            throw new Fails();
        }
        return m.stack.pop();
    }

    private static void push(Message m, BigInteger v) {
        if (m.stack.size() >= 1024) {
            throw new Fails();
        }
        m.stack.push(v.and(ALL));
    }

    private static void push(Message m, boolean yes) {
        push(m, yes ? ONE : ZERO);
    }

    private static void pay(Message m, BigInteger cost) {
        if (BigInteger.valueOf(m.gas).compareTo(cost) < 0) {
            throw new Fails();
        }
        m.gas -= cost.longValueExact();
    }

    private static void pay(Message m, long cost) {
        pay(m, BigInteger.valueOf(cost));
    }

    private static BigInteger words(BigInteger n) {
        return n.add(BigInteger.valueOf(31)).shiftRight(5);
    }

    private static BigInteger memoryCost(BigInteger w) {
        return w.multiply(BigInteger.valueOf(3)).add(w.multiply(w).divide(BigInteger.valueOf(512)));
    }

    private static void use(Message m, BigInteger from, BigInteger n) {
        if (n.signum() == 0) {
            return;
        }
        BigInteger end = from.add(n);
        if (end.compareTo(ONE.shiftLeft(32)) > 0) {
            throw new Fails();
        }
        BigInteger now = BigInteger.valueOf(m.memory.length / 32);
        BigInteger then = words(end).max(now);
        pay(m, memoryCost(then).subtract(memoryCost(now)));
        m.memory = Arrays.copyOf(m.memory, then.intValueExact() * 32);
    }

    private static byte[] taken(Message m, BigInteger from, BigInteger n) {
        if (n.signum() == 0) {
            return new byte[0];
        }
        return Arrays.copyOfRange(m.memory, from.intValueExact(), from.add(n).intValueExact());
    }

    private static byte[] slice(byte[] source, BigInteger from, int n) {
        byte[] answer = new byte[n];
        for (int k = 0; k < n; k++) {
            BigInteger at = from.add(BigInteger.valueOf(k));
            answer[k] = at.compareTo(BigInteger.valueOf(source.length)) < 0 ? source[at.intValueExact()] : 0;
        }
        return answer;
    }

    private static void copyIn(Message m, byte[] source) {
        BigInteger to = pop(m);
        BigInteger from = pop(m);
        BigInteger n = pop(m);
        pay(m, words(n).multiply(BigInteger.valueOf(3)));
        use(m, to, n);
        if (n.signum() != 0) {
            byte[] bytes = slice(source, from, n.intValueExact());
            System.arraycopy(bytes, 0, m.memory, to.intValueExact(), bytes.length);
        }
    }

    private static BigInteger signed(BigInteger v) {
        return v.compareTo(HALF) >= 0 ? v.subtract(ALL).subtract(ONE) : v;
    }

    private void access(Message m, BigInteger who) {
        pay(m, world.touched.contains(who) ? 100 : 2600);
        world.touched.add(who);
    }

    private void step(Message m, byte[] code) {
        int op = m.place < code.length ? code[m.place] & 255 : 0;
        int at = m.place;
        m.place++;
        if (op < 0x20) {
            sum(m, op);
        } else if (op >= 0x60 && op <= 0x7F) {
            pay(m, 3);
            int n = op - 0x5F;
            push(m, new BigInteger(1, slice(code, BigInteger.valueOf(at + 1), n)));
            m.place += n;
        } else if (op >= 0x80 && op <= 0x9F) {
            shuffle(m, op);
        } else if (op >= 0xA0 && op <= 0xA4) {
            log(m, op - 0xA0);
        } else if (op >= 0x30 && op <= 0x47) {
            look(m, op, code);
        } else if (op >= 0x50 && op <= 0x5B) {
            flow(m, op, at, code);
        } else {
            system(m, op);
        }
    }

    private void sum(Message m, int op) {
        if (op == 0) {
            m.outcome = 1;
            return;
        }
        if (op > 0x0B && op < 0x10 || op > 0x1D) {
            throw new Fails();
        }
        if (op == 0x15 || op == 0x19) {
            BigInteger a = pop(m);
            pay(m, 3);
            push(m, op == 0x15 ? a.signum() == 0 ? ONE : ZERO : a.xor(ALL));
            return;
        }
        BigInteger a = pop(m);
        BigInteger b = pop(m);
        if (op == 0x08 || op == 0x09) {
            BigInteger c = pop(m);
            pay(m, 8);
            BigInteger whole = op == 0x08 ? a.add(b) : a.multiply(b);
            push(m, c.signum() == 0 ? ZERO : whole.mod(c));
            return;
        }
        if (op == 0x0A) {
            pay(m, 10 + 50L * ((b.bitLength() + 7) / 8));
        } else {
            pay(m, op == 0x01 || op == 0x03 || op >= 0x10 ? 3 : 5);
        }
        push(m, two(op, a, b));
    }

    private static BigInteger two(int op, BigInteger a, BigInteger b) {
        boolean by0 = b.signum() == 0;
        boolean far = a.bitLength() > 8;
        switch (op) {
            case 0x01: return a.add(b);
            case 0x02: return a.multiply(b);
            case 0x03: return a.subtract(b);
            case 0x04: return by0 ? ZERO : a.divide(b);
            case 0x05: return by0 ? ZERO : signed(a).divide(signed(b));
            case 0x06: return by0 ? ZERO : a.mod(b);
            case 0x07: return by0 ? ZERO : signed(a).remainder(signed(b));
            case 0x0A: return a.modPow(b, ALL.add(ONE));
            case 0x0B: return extended(a, b);
            case 0x10: return a.compareTo(b) < 0 ? ONE : ZERO;
            case 0x11: return a.compareTo(b) > 0 ? ONE : ZERO;
            case 0x12: return signed(a).compareTo(signed(b)) < 0 ? ONE : ZERO;
            case 0x13: return signed(a).compareTo(signed(b)) > 0 ? ONE : ZERO;
            case 0x14: return a.equals(b) ? ONE : ZERO;
            case 0x16: return a.and(b);
            case 0x17: return a.or(b);
            case 0x18: return a.xor(b);
            case 0x1A: return far || a.intValue() > 31 ? ZERO
                : b.shiftRight(8 * (31 - a.intValue())).and(BigInteger.valueOf(255));
            case 0x1B: return far ? ZERO : b.shiftLeft(a.intValue());
            case 0x1C: return far ? ZERO : b.shiftRight(a.intValue());
            default: return signed(b).shiftRight(far ? 256 : a.intValue());
        }
    }

    private static BigInteger extended(BigInteger a, BigInteger b) {
        if (a.compareTo(BigInteger.valueOf(31)) >= 0) {
            return b;
        }
        int bit = 8 * a.intValue() + 7;
        BigInteger low = ONE.shiftLeft(bit + 1).subtract(ONE);
        return b.testBit(bit) ? b.or(ALL.andNot(low)) : b.and(low);
    }

    private void shuffle(Message m, int op) {
        List<BigInteger> all = new ArrayList<>(m.stack);
        int n = (op & 15) + 1;
        pay(m, 3);
        if (op < 0x90) {
            if (all.size() < n) {
                throw new Fails();
            }
            push(m, all.get(n - 1));
        } else {
            if (all.size() < n + 1) {
                throw new Fails();
            }
            BigInteger top = all.get(0);
            all.set(0, all.get(n));
            all.set(n, top);
            m.stack = new ArrayDeque<>(all);
        }
    }

    private void log(Message m, int n) {
        BigInteger from = pop(m);
        BigInteger length = pop(m);
        List<BigInteger> topics = new ArrayList<>();
        for (int k = 0; k < n; k++) {
            topics.add(pop(m));
        }
        if (m.isStatic) {
            throw new Fails();
        }
        pay(m, BigInteger.valueOf(375L * (n + 1)).add(length.shiftLeft(3)));
        use(m, from, length);
        world.logs.add(new Log(m.address, topics, taken(m, from, length)));
        int bytes = 0;
        for (Log log : world.logs) {
            bytes += log.bytes().length;
        }
        if (world.logs.size() > 200 || bytes > 4096) {
            throw new Limit();
        }
    }

    private void look(Message m, int op, byte[] code) {
        switch (op) {
            case 0x31: case 0x3B: case 0x3C: case 0x3F: lookAt(m, op, pop(m).and(ADDRESSES)); return;
            case 0x35: {
                BigInteger a = pop(m);
                pay(m, 3);
                push(m, new BigInteger(1, slice(m.data, a, 32)));
                return;
            }
            case 0x37: pay(m, 3); copyIn(m, m.data); return;
            case 0x39: pay(m, 3); copyIn(m, code); return;
            case 0x3E: {
                List<BigInteger> all = new ArrayList<>(m.stack);
                pay(m, 3);
                if (all.size() > 2
                        && all.get(1).add(all.get(2)).compareTo(BigInteger.valueOf(m.returned.length)) > 0) {
                    throw new Fails();
                }
                copyIn(m, m.returned);
                return;
            }
            default: break;
        }
        if (op == 0x40) {
            throw new Fails();
        }
        pay(m, op == 0x47 ? 5 : 2);
        switch (op) {
            case 0x30: push(m, m.address); break;
            case 0x32: push(m, origin); break;
            case 0x33: push(m, m.sender); break;
            case 0x34: push(m, m.value); break;
            case 0x36: push(m, BigInteger.valueOf(m.data.length)); break;
            case 0x38: push(m, BigInteger.valueOf(code.length)); break;
            case 0x3A: push(m, number(environment[0])); break;
            case 0x3D: push(m, BigInteger.valueOf(m.returned.length)); break;
            case 0x47: push(m, world.balance(m.address)); break;
            default: push(m, number(environment[op - 0x40])); break;
        }
    }

    private void lookAt(Message m, int op, BigInteger who) {
        access(m, who);
        switch (op) {
            case 0x31: push(m, world.balance(who)); break;
            case 0x3B: push(m, BigInteger.valueOf(world.code(who).length)); break;
            case 0x3C: copyIn(m, world.code(who)); break;
            default: push(m, world.isDead(who) ? ZERO : ReferenceKeccak.number(world.code(who))); break;
        }
    }

    private void flow(Message m, int op, int at, byte[] code) {
        switch (op) {
            case 0x50: pop(m); pay(m, 2); break;
            case 0x51: {
                BigInteger a = pop(m);
                pay(m, 3);
                use(m, a, BigInteger.valueOf(32));
                push(m, new BigInteger(1, taken(m, a, BigInteger.valueOf(32))));
                break;
            }
            case 0x52: case 0x53: {
                BigInteger a = pop(m);
                BigInteger b = pop(m);
                int n = op == 0x52 ? 32 : 1;
                pay(m, 3);
                use(m, a, BigInteger.valueOf(n));
                for (int k = 0; k < n; k++) {
                    m.memory[a.intValueExact() + k] = b.shiftRight(8 * (n - 1 - k)).byteValue();
                }
                break;
            }
            case 0x54: {
                BigInteger p = pop(m);
                pay(m, world.touchedPlaces.add(new Place(m.address, p)) ? 2100 : 100);
                push(m, world.stored(m.address, p));
                break;
            }
            case 0x55: sstore(m, pop(m), pop(m)); break;
            case 0x56: case 0x57: {
                BigInteger to = pop(m);
                boolean goes = op == 0x56 || pop(m).signum() != 0;
                pay(m, op == 0x56 ? 8 : 10);
                if (goes && !isJumpdest(code, to)) {
                    throw new Fails();
                }
                m.place = goes ? to.intValueExact() : m.place;
                break;
            }
            case 0x58: pay(m, 2); push(m, BigInteger.valueOf(at)); break;
            case 0x59: pay(m, 2); push(m, BigInteger.valueOf(m.memory.length)); break;
            case 0x5A: pay(m, 2); push(m, BigInteger.valueOf(m.gas)); break;
            default: pay(m, 1); break;
        }
    }

    private void sstore(Message m, BigInteger p, BigInteger b) {
        if (m.isStatic || m.gas <= 2300) {
            throw new Fails();
        }
        if (world.touchedPlaces.add(new Place(m.address, p))) {
            pay(m, 2100);
        }
        BigInteger o = before.stored(m.address, p);
        BigInteger c = world.stored(m.address, p);
        if (b.equals(c)) {
            pay(m, 100);
        } else if (o.equals(c)) {
            pay(m, o.signum() == 0 ? 20000 : 2900);
            if (o.signum() != 0 && b.signum() == 0) {
                world.refund += 15000;
            }
        } else {
            pay(m, 100);
            if (o.signum() != 0 && c.signum() == 0) {
                world.refund -= 15000;
            }
            if (o.signum() != 0 && b.signum() == 0) {
                world.refund += 15000;
            }
            if (o.equals(b)) {
                world.refund += o.signum() == 0 ? 19900 : 2800;
            }
        }
        put(m.address, p, b);
    }

    private void system(Message m, int op) {
        switch (op) {
            case 0x20: {
                BigInteger a = pop(m);
                BigInteger b = pop(m);
                pay(m, words(b).multiply(BigInteger.valueOf(6)).add(BigInteger.valueOf(30)));
                use(m, a, b);
                push(m, ReferenceKeccak.number(taken(m, a, b)));
                break;
            }
            case 0xF1: case 0xF2: case 0xF4: case 0xFA: call(m, op); break;
            case 0xF3: case 0xFD: {
                BigInteger a = pop(m);
                BigInteger b = pop(m);
                use(m, a, b);
                m.given = taken(m, a, b);
                m.outcome = op == 0xF3 ? 1 : 2;
                break;
            }
            case 0xFF: selfdestruct(m, pop(m).and(ADDRESSES)); break;
            default: throw new Fails();
        }
    }

    private void selfdestruct(Message m, BigInteger heir) {
        if (m.isStatic) {
            throw new Fails();
        }
        BigInteger all = world.balance(m.address);
        pay(m, 5000);
        if (world.touched.add(heir)) {
            pay(m, 2600);
        }
        if (world.isDead(heir) && all.signum() != 0) {
            pay(m, 25000);
        }
        world.balances.put(m.address, ZERO);
        if (!heir.equals(m.address)) {
            world.balances.put(heir, world.balance(heir).add(all));
            noteAccount(heir);
        }
        if (world.destroyed.add(m.address)) {
            world.refund += 24000;
        }
        m.outcome = 1;
    }

    private void call(Message m, int op) {
        BigInteger a = pop(m);
        BigInteger b = pop(m).and(ADDRESSES);
        BigInteger c = op == 0xF1 || op == 0xF2 ? pop(m) : ZERO;
        BigInteger d = pop(m);
        BigInteger e = pop(m);
        BigInteger f = pop(m);
        BigInteger g = pop(m);
        boolean some = c.signum() != 0;
        if (m.isStatic && op == 0xF1 && some) {
            throw new Fails();
        }
        use(m, d, e);
        use(m, f, g);
        access(m, b);
        pay(m, some ? 9000 : 0);
        pay(m, some && op == 0xF1 && world.isDead(b) ? 25000 : 0);
        long goes = a.min(BigInteger.valueOf(m.gas - m.gas / 64)).longValueExact();
        if (m.depth == 24 || world.balance(m.address).compareTo(c) < 0) {
            m.gas += some ? 2300 : 0;
            m.returned = new byte[0];
            push(m, false);
            return;
        }
        Message n = new Message();
        n.sender = op == 0xF4 ? m.sender : m.address;
        n.address = op == 0xF2 || op == 0xF4 ? m.address : b;
        n.codeAddress = b;
        n.value = op == 0xF4 ? m.value : c;
        n.data = taken(m, d, e);
        n.isStatic = m.isStatic || op == 0xFA;
        n.moves = !n.isStatic && op != 0xF4;
        n.depth = m.depth + 1;
        n.gas = goes + (some ? 2300 : 0);
        m.gas -= goes;
        deliver(n);
        m.gas += n.gas;
        m.returned = n.given;
        int back = g.min(BigInteger.valueOf(n.given.length)).intValueExact();
        if (back > 0) {
            System.arraycopy(n.given, 0, m.memory, f.intValueExact(), back);
        }
        push(m, n.outcome == 1);
    }
}
