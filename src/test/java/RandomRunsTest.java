import java.util.Random;

/** Long runs of calls by fixed seeds, each answer compared with the model's; promises 1 to 17 together. */
public final class RandomRunsTest {
    private static final int RUNS = 4000;
    private static final int CALLS = 512;
    /** More than the dearest action makes: so many pokes bring a row, or a head, onto the disk. */
    private static final int MOST_POKES = 40;
    private static final Check check = new Check();
    private static final int[] WILD = {Integer.MIN_VALUE, Integer.MIN_VALUE + 1, -65536, -512, -256, -2, -1, 64, 255, 256, 512, 1001,
        65536, 1 << 23, 1 << 30, Integer.MAX_VALUE - 1, Integer.MAX_VALUE};
    private static final int[] SIZES = {4, 4, 4, 5, 6, 7, 8, 10, 12, 20, 39, 40, 41, 2};

    private final Random random;
    private final BuildDisk x;
    private final Model m;
    private final int keys;
    private final boolean pokes;
    /** Whether cuts come soon behind starts, with other editions, and rows and heads are forged. */
    private final boolean restless;
    private final int syncWeight;
    private int calls = 0;

    private RandomRunsTest(int seed) {
        random = new Random(seed);
        int size = SIZES[random.nextInt(SIZES.length)];
        x = new BuildDisk(size);
        m = new Model(size);
        keys = 1 + random.nextInt(64);
        pokes = random.nextInt(3) != 0;
        restless = random.nextInt(4) == 0;
        syncWeight = random.nextInt(12);
    }

    public static void main(String[] args) {
        for (int seed = 0; seed < RUNS && !check.anyWrong(); seed++) {
            check.about("seed " + seed);
            new RandomRunsTest(seed).run();
        }
        check.end();
    }

    private void run() {
        while (calls + MOST_POKES < CALLS && !check.anyWrong()) {
            calls++;
            if (restless && random.nextInt(4) == 0) {
                unrest();
            } else if (m.about(0) == 0 && random.nextInt(3) != 0) {
                starts();
            } else {
                call(random.nextInt(100 + syncWeight));
            }
        }
    }

    private void unrest() {
        if (m.about(0) == 1) {
            int keep = random.nextInt(4);
            cut(random.nextInt(4) == 0 ? m.about(2) - keep : keep, random.nextInt(2) * random.nextInt(513));
        } else if (random.nextInt(3) != 0) {
            edition(1 + random.nextInt(3));
        } else if (random.nextInt(3) != 0) {
            forgeHead();
        } else {
            forgeRow();
        }
    }

    /** A head that has its sum, and mostly all else that makes it count. */
    private void forgeHead() {
        int sector = random.nextInt(2);
        long near = random.nextInt(12) == 0 ? 1999999990L : random.nextInt(12) == 0 ? 0xFFFFFFF0L : 2 * random.nextInt(10);
        long sequence = near + 2 * random.nextInt(6) + (random.nextInt(8) == 0 ? 1 - sector : sector);
        int area = random.nextInt(8) == 0 ? 2 : random.nextInt(2);
        forge(sector * 512, Forge.head(random.nextInt(4), sequence, area));
    }

    /** A row that has its sum, and mostly all else that makes it one. */
    private void forgeRow() {
        int place = random.nextInt(m.about(8));
        int kind = random.nextInt(8) == 0 ? random.nextInt(5) : 1 + random.nextInt(3);
        int[] asks = new int[kind == 1 || random.nextInt(8) == 0 ? random.nextInt(8) : 0];
        for (int i = 0; i < asks.length; i++) {
            asks[i] = random.nextInt(16) == 0 ? 64 : random.nextInt(keys);
        }
        int name = random.nextInt(kind == 1 ? 65 : 9);
        long digest = kind == 1 ? random.nextLong() : 0;
        int byPlace = random.nextInt(8) == 0 ? place ^ 1 : place;
        forge(1024 + (random.nextInt(2) * m.about(8) + place) * 32, Forge.row(byPlace, kind, name, digest, asks));
    }

    private void forge(int at, int[] bytes) {
        for (int i = 0; i < bytes.length; i++) {
            int mask = (m.sector((at + i) / 512, (at + i) % 512) & 255) ^ bytes[i];
            if (mask != 0) {
                calls++;
                check.due("poke(" + (at + i) + ", " + mask + ")", x.poke(at + i, mask), m.poke(at + i, mask));
            }
        }
    }

    private void call(int dice) {
        if (dice < 26) {
            rows();
        } else if (dice < 40) {
            asks();
        } else if (dice < 52) {
            compacts();
        } else if (dice < 60) {
            locks();
        } else if (dice < 63) {
            starts();
        } else if (dice < 66) {
            cuts();
        } else if (dice < 70) {
            pokesOrEditions();
        } else if (dice < 84) {
            looks();
        } else if (dice < 98) {
            sectors();
        } else {
            check.due("sync()", x.sync(), m.sync());
        }
    }

    /** Now and then a number that nothing can be done with. */
    private int orWild(int usual) {
        return random.nextInt(50) == 0 ? WILD[random.nextInt(WILD.length)] : usual;
    }

    private int key() {
        return orWild(random.nextInt(30) == 0 ? random.nextInt(70) - 3 : random.nextInt(keys));
    }

    private void starts() {
        check.due("start()", x.start(), m.start());
    }

    private void rows() {
        int key = key();
        long digest = random.nextBoolean() ? random.nextLong() : random.nextInt(100);
        check.due("row(" + key + ", " + digest + ")", x.row(key, digest), m.row(key, digest));
    }

    private void asks() {
        int row = orWild(m.about(1) - 1 - (random.nextInt(8) == 0 ? random.nextInt(5) - 2 : 0));
        int key = key();
        check.due("asks(" + row + ", " + key + ")", x.asks(row, key), m.asks(row, key));
    }

    private void compacts() {
        int n = orWild(random.nextInt(6) == 0 ? random.nextInt(1100) - 20 : 1 + random.nextInt(12));
        check.due("compact(" + n + ")", x.compact(n), m.compact(n));
    }

    private void locks() {
        int user = orWild(random.nextInt(20) == 0 ? random.nextInt(12) - 2 : random.nextInt(3));
        if (random.nextBoolean()) {
            check.due("lock(" + user + ")", x.lock(user), m.lock(user));
        } else {
            check.due("dead(" + user + ")", x.dead(user), m.dead(user));
        }
    }

    private void cuts() {
        int keep = orWild(random.nextInt(4) == 0 ? 64 : random.nextInt(70) - 2);
        int tear = orWild(random.nextInt(2) == 0 ? random.nextInt(20) * 32 : random.nextInt(530) - 5);
        cut(keep, tear);
    }

    private void cut(int keep, int tear) {
        x.cut(keep, tear);
        m.cut(keep, tear);
    }

    private void edition(int e) {
        check.due("edition(" + e + ")", x.edition(e), m.edition(e));
    }

    private void pokesOrEditions() {
        if (random.nextInt(5) == 0) {
            edition(orWild(random.nextInt(10) == 0 ? random.nextInt(210) - 4 : 1 + random.nextInt(2)));
        } else if (pokes) {
            int bytes = 1024 + m.about(8) * 64;
            int first = random.nextInt(12) == 0 ? 0 : 1024 + Math.max(0, m.about(5)) * m.about(8) * 32;
            int place = orWild(first + random.nextInt(random.nextInt(10) == 0 ? bytes : 512));
            int mask = orWild(random.nextInt(10) == 0 ? random.nextInt(270) - 5 : 1 << random.nextInt(8));
            check.due("poke(" + place + ", " + mask + ")", x.poke(place, mask), m.poke(place, mask));
        }
    }

    private void looks() {
        int key = key();
        int i = orWild(random.nextInt(8) - 1);
        int what = orWild(random.nextInt(11) - 1);
        switch (random.nextInt(6)) {
            case 0 -> check.due("digest(" + key + ")", x.digest(key), m.digest(key));
            case 1 -> check.due("asked(" + key + ", " + i + ")", x.asked(key, i), m.asked(key, i));
            case 2 -> check.due("sure(" + key + ")", x.sure(key), m.sure(key));
            case 3 -> check.due("wrong()", x.wrong(), m.wrong());
            default -> check.due("about(" + what + ")", x.about(what), m.about(what));
        }
    }

    private void sectors() {
        int n = orWild(random.nextInt(3) == 0 ? random.nextInt(42) - 1 : 2 + random.nextInt(4));
        int i = orWild(random.nextInt(3) == 0 ? random.nextInt(12) : random.nextInt(520) - 4);
        int got = 1000;
        try {
            got = x.sector(n, i);
        } catch (ArrayIndexOutOfBoundsException e) {
            got = 1000;
        }
        check.due("sector(" + n + ", " + i + ")", got, m.sector(n, i));
    }
}
