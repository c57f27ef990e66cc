import java.util.Random;

/** Random calls, compared with the reference: promises 1 to 16. */
public final class RandomRunsTest {
    private static final long[] ADDRESSES = {0, 1, 2, 3, 4, 5, 6, 7, 8, 9, 77, Long.MAX_VALUE};
    private static final long[] PLACES = {0, 1, 2, 3, 5, 17, 39};

    private RandomRunsTest() {
    }

    public static void main(String[] args) {
        Check check = new Check();
        long first = Long.getLong("first", 1);
        long many = Long.getLong("many", 1500);
        int[] ends = new int[6];
        for (long seed = first; seed < first + many; seed++) {
            life(check, seed, ends);
            if (check.wrong() > 20) {
                break;
            }
        }
        System.out.println("RUNS: 0 " + ends[0] + ", 1 " + ends[1] + ", 2 " + ends[2] + ", IOOBE "
            + ends[3] + ", UOE " + ends[4] + ", steps " + ends[5]);
        check.finish("RandomRunsTest");
    }

    /** One object from its making on. */
    private static void life(Check check, long seed, int[] ends) {
        Random random = new Random(seed);
        Both both = new Both(check, "seed " + seed);
        RandomPrograms programs = new RandomPrograms(random, ADDRESSES);
        both.askAboutRun();
        for (int k = 0; k < 7; k++) {
            if (random.nextBoolean()) {
                both.environment(k, random.nextLong() >>> random.nextInt(64));
            }
        }
        both.balance(1, random.nextInt(2), 5000);
        both.balance(2, 0, 1000);
        int greed = random.nextInt(6);
        fill(both, random, greed);
        int rounds = 4 + random.nextInt(8);
        for (int k = 0; k < rounds; k++) {
            prepare(both, random, programs);
            if (greed < 3 && random.nextInt(3) != 0) {
                both.code(3 + random.nextInt(3), programs.greedy(greed, 1 + random.nextInt(greed == 1 ? 260 : 10)));
            }
            both.tape(programs.noise(random.nextInt(4) == 0 ? 700 : 70));
            long from = ADDRESSES[random.nextInt(4)];
            long to = ADDRESSES[random.nextInt(ADDRESSES.length - 1)];
            long value = random.nextInt(3) != 0 ? 0 : random.nextInt(20) == 0 ? -1 : random.nextInt(50);
            String end = both.run(from, to, value, random.nextInt(random.nextInt(3) == 0 ? 20000 : 200001));
            int kind = end.length() == 1 ? end.charAt(0) - '0' : end.contains("Index") ? 3 : 4;
            ends[kind]++;
            ends[5] += both.y.told(3);
            both.askAboutRun();
            both.askAboutWorld(ADDRESSES, PLACES);
        }
    }

    /** Comes near a LIMIT, or passes it. */
    private static void fill(Both both, Random random, int greed) {
        if (greed == 0) {
            int many = 370 + random.nextInt(35);
            for (int k = 0; k < many; k++) {
                both.store(2 + k % 5, k / 5, 0, 1 + k);
            }
        }
        if (greed == 2) {
            int many = 48 + random.nextInt(20);
            for (int k = 0; k < many; k++) {
                long address = 90 + k + random.nextInt(2);
                switch (random.nextInt(3)) {
                    case 0: both.balance(address, 0, random.nextInt(4)); break;
                    case 1: both.store(address, 0, 0, random.nextInt(4)); break;
                    default: both.code(address, new byte[random.nextInt(4)]); break;
                }
            }
        }
    }

    private static void prepare(Both both, Random random, RandomPrograms programs) {
        for (int k = 0; k < 4; k++) {
            long address = ADDRESSES[random.nextInt(ADDRESSES.length)];
            switch (random.nextInt(6)) {
                case 0: both.balance(address, random.nextInt(3) / 2, random.nextInt(100)); break;
                case 1: both.store(address, random.nextInt(4), random.nextInt(2), random.nextInt(3)); break;
                case 2: both.code(address, programs.noise(60)); break;
                default: both.code(address, programs.program(1 + random.nextInt(14))); break;
            }
        }
    }
}
