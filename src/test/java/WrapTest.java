/**
 * Wrap-around: the sum's 32 bits, the two heads and the two areas in turn, numbers of several bytes with their
 * highest bits set. The sums written out here were reckoned outside of Java, with numbers that have no end.
 */
public final class WrapTest {
    private static final Check check = new Check();

    public static void main(String[] args) {
        sumsByPlaces();
        sumsOfDigests();
        sumsOfAsked();
        sumsOfHeads();
        sumsThatAreZero();
        sumsWithOneBitWrong();
        sumsOfAnotherPlace();
        digestsThroughTheDisk();
        digestsThroughCompaction();
        digestBytes();
        sequenceBytes();
        editionBytes();
        signedBytes();
        headsInTurn();
        headsInTurnBehindAnOddOne();
        headsInTurnOverCompactions();
        greaterSequence();
        areasInTurn();
        areaOfTheNextStart();
        otherAreaIsClearedEachTime();
        check.end();
    }

    /** Running by an area whose first free place is this one. */
    private static BuildDisk aheadOf(int place) {
        BuildDisk x = Forge.withHead(40, 1, 2, 0);
        if (place > 0) {
            Forge.put(x, 1024 + (place - 1) * 32, Forge.row(place - 1, 1, 1, 1));
        }
        x.start();
        check.due("about(1)", x.about(1), place);
        return x;
    }

    private static void dueSum(BuildDisk x, int place, long want) {
        x.sync();
        check.due("sum at place " + place, number(x, 1024 + place * 32 + 28, 4), want);
    }

    private static long number(BuildDisk x, int at, int count) {
        long number = 0;
        for (int i = 0; i < count; i++) {
            number = number * 256 + (x.sector((at + i) / 512, (at + i) % 512) & 255);
        }
        return number;
    }

    private static void sumsByPlaces() {
        check.about("SUM by a number n: 32 bits, what is beyond is lost; of a ROW by the PLACE");
        long[][] sums = { // place, the sums of row(63, -1) and of lock(7) there
            {0, 0x477de3aeL, 0xf46efe2eL}, {1, 0x43eca862L, 0xa25d6b77L}, {15, 0x4daa513fL, 0x7ed554b4L},
            {16, 0x1abe54d7L, 0x69c9bbabL}, {127, 0xd0fc5e3dL, 0xa955aa58L}, {128, 0xfdfa68cbL, 0x57646592L},
            {255, 0x8b9b3555L, 0x80e724ddL}, {256, 0xbe2622beL, 0xfac1b02cL}, {303, 0xdbbfb84fL, 0x9c8c2efeL}};
        for (long[] s : sums) {
            int place = (int) s[0];
            BuildDisk x = aheadOf(place);
            check.due("row(63, -1)", x.row(63, -1), place);
            dueSum(x, place, s[1]);
            BuildDisk y = aheadOf(place);
            check.due("lock(7)", y.lock(7), 1);
            dueSum(y, place, s[2]);
        }
        BuildDisk x = aheadOf(255);
        x.lock(0);
        x.dead(0);
        dueSum(x, 256, 0x35a81c5aL);
        BuildDisk y = aheadOf(302);
        y.lock(0);
        y.dead(0);
        dueSum(y, 303, 0xf29de3a0L);
    }

    private static void sumsOfDigests() {
        check.about("SUM of bytes (0 .. 255): DIGESTS with their highest bits set");
        long[][] sums = {{Long.MIN_VALUE, 0xf24fab12L}, {Long.MAX_VALUE, 0x77036fcaL}, {0x0102030405060708L, 0xd0f380b6L},
            {0x8091A2B3C4D5E6F7L, 0x4611c3dfL}};
        for (long[] s : sums) {
            BuildDisk x = Forge.running(4);
            x.row(1, s[0]);
            dueSum(x, 0, s[1]);
        }
    }

    private static void sumsOfAsked() {
        check.about("SUM of a ROW with the KEYS that it ASKS");
        BuildDisk x = Forge.running(4);
        x.row(63, -1);
        for (int i = 0; i < 6; i++) {
            x.asks(0, 63 - i);
        }
        dueSum(x, 0, 0xeaeff2d4L);
        x.row(7, 1234567890123L);
        x.asks(1, 5);
        x.asks(1, 9);
        dueSum(x, 1, 0x3928f089L);
    }

    private static void sumsOfHeads() {
        check.about("SUM of a HEAD: of the 508 by its SEQUENCE");
        long[][] heads = { // edition, the sequence of the first head, area, the sums of the first one and the second
            {1, 1, 0, 0x35c8b2fL, 0xbdd5e47aL}, {200, 1, 0, 0x99f03f27L, 0x190686d8L},
            {1, 1999999999, 1, 0x89ff4b4eL, 0x135b9e93L}, {1, 255, 0, 0x3841cefbL, 0xf339d4a5L}, {128, 65535, 1, 0xaf4f605aL, 0x4afd8932L}};
        for (long[] h : heads) {
            BuildDisk x = Forge.withHead(4, h[0], h[1] - 1, (int) h[2]);
            x.edition((int) h[0]);
            check.due("start()", x.start(), 0);
            x.sync();
            check.due("sum of the head " + h[1], number(x, 512 + 508, 4), h[3]);
            check.due("sum of the head " + (h[1] + 1), number(x, 508, 4), h[4]);
        }
    }

    private static void sumsThatAreZero() {
        check.about("SUM: where s xor a byte is 0 all that follows is 0, so a PLACE of 0s but its KIND has a ROW");
        for (int place = 0; place < 6; place++) {
            for (int kind = 1; kind <= 3; kind++) {
                BuildDisk x = Forge.withHead(4, 1, 2, 0);
                x.poke(1024 + place * 32, kind);
                check.due("start() with kind " + kind + " at " + place, x.start(), kind == place + 1 ? 1 : 0);
            }
        }
    }

    private static void sumsWithOneBitWrong() {
        check.about("promise 2: and its SUM is right");
        int[] row = Forge.row(1, 1, 2, 20, 3);
        for (int bit = 0; bit < 256; bit++) {
            BuildDisk x = Forge.withHead(4, 1, 2, 0);
            Forge.put(x, 1024 + 32, row);
            x.poke(1024 + 32 + bit / 8, 1 << bit % 8);
            check.due("start() with bit " + bit + " changed", x.start(), 0);
        }
    }

    private static void sumsOfAnotherPlace() {
        check.about("promise 2: the SUM by the PLACE");
        for (int of = 0; of < 16; of++) {
            for (int at = 0; at < 16; at++) {
                BuildDisk x = Forge.withHead(4, 1, 2, 0);
                Forge.put(x, 1024 + at * 32, Forge.row(of, 1, 2, 20));
                check.due("start() with a row of place " + of + " at " + at, x.start(), of == at ? 1 : 0);
            }
        }
    }

    private static void digestsThroughTheDisk() {
        check.about("DIGEST (eight), the highest first: through the DISK");
        BuildDisk x = Forge.running(10);
        for (int bit = 0; bit < 64; bit++) {
            x.row(bit, 1L << bit);
        }
        x.cut(64, 0);
        check.due("start()", x.start(), 64);
        for (int bit = 0; bit < 64; bit++) {
            check.due("digest(" + bit + ")", x.digest(bit), 1L << bit);
        }
        BuildDisk y = Forge.running(10);
        for (int bit = 0; bit < 64; bit++) {
            y.row(bit, ~(1L << bit));
        }
        y.cut(64, 0);
        y.start();
        for (int bit = 0; bit < 64; bit++) {
            check.due("digest(" + bit + ")", y.digest(bit), ~(1L << bit));
        }
    }

    private static void digestsThroughCompaction() {
        check.about("DIGEST (eight), through COMPACTION");
        BuildDisk x = Forge.running(10);
        for (int bit = 0; bit < 64; bit++) {
            x.row(bit, -1L << bit);
        }
        check.due("compact(1000)", x.compact(1000), 66);
        for (int bit = 0; bit < 64; bit++) {
            check.due("digest(" + bit + ")", x.digest(bit), -1L << bit);
        }
        x.cut(64, 0);
        check.due("start()", x.start(), 64);
        for (int bit = 0; bit < 64; bit++) {
            check.due("digest(" + bit + ")", x.digest(bit), -1L << bit);
        }
    }

    private static void digestBytes() {
        check.about("Numbers of several bytes: the highest first");
        BuildDisk x = Forge.running(4);
        x.row(1, 0x8182838485868788L);
        x.sync();
        for (int i = 0; i < 8; i++) {
            check.dueByte(x, 2, 16 + i, 0x81 + i);
        }
    }

    private static void sequenceBytes() {
        check.about("a HEAD: its SEQUENCE (four), the highest first");
        for (long sequence : new long[] {126, 127, 128, 254, 255, 256, 32767, 65534, 65535, 8388607, 16777215, 16777216,
            0x12345678, 0x01ff80fe, 1999999997}) {
            BuildDisk x = Forge.withHead(4, 1, sequence, 0);
            check.due("start()", x.start(), 0);
            check.due("about(6)", x.about(6), sequence + 2);
            x.sync();
            int first = (int) ((sequence + 1) % 2);
            check.due("first head", number(x, first * 512 + 4, 4), sequence + 1);
            check.due("second head", number(x, (1 - first) * 512 + 4, 4), sequence + 2);
        }
    }

    private static void editionBytes() {
        check.about("a HEAD: an EDITION (four), the highest first");
        for (int e : new int[] {1, 127, 128, 129, 199, 200}) {
            BuildDisk x = new BuildDisk(4);
            x.edition(e);
            x.start();
            x.sync();
            check.due("edition of sector 0", number(x, 0, 4), e);
            check.due("edition of sector 1", number(x, 512, 4), e);
            x.cut(0, 0);
            check.due("start() by the same", x.start(), 0);
        }
    }

    private static void signedBytes() {
        check.about("promise 11: a byte of 128 .. 255 is below 0");
        BuildDisk x = new BuildDisk(4);
        for (int mask = 1; mask < 256; mask++) {
            x.poke(512 + mask, mask);
            check.due("sector(1, " + mask + ")", x.sector(1, mask), mask < 128 ? mask : mask - 256);
        }
    }

    /** What each of the two writes brings: the sequences of the two sectors behind a cut that keeps so many. */
    private static void dueTurn(long sequence, int keep, long sector0, long sector1) {
        BuildDisk x = Forge.withHead(4, 1, sequence, 1);
        x.start();
        x.cut(keep, 0);
        check.due("sector 0 behind " + keep + " from " + sequence, number(x, 4, 4), sector0);
        check.due("sector 1 behind " + keep + " from " + sequence, number(x, 512 + 4, 4), sector1);
    }

    private static void headsInTurn() {
        check.about("A HEAD, in SECTOR SEQUENCE modulo 2; two WRITES, SEQUENCES one and two more");
        dueTurn(6, 0, 6, 0);
        dueTurn(6, 1, 6, 7);
        dueTurn(6, 2, 8, 7);
    }

    private static void headsInTurnBehindAnOddOne() {
        check.about("A HEAD, in SECTOR SEQUENCE modulo 2; behind an odd SEQUENCE the even one comes first");
        dueTurn(7, 0, 0, 7);
        dueTurn(7, 1, 8, 7);
        dueTurn(7, 2, 8, 9);
        BuildDisk x = Forge.running(4);
        x.row(1, 11);
        x.sync();
        for (int i = 1; i < 10; i++) {
            x.cut(1, 0);
            check.due("start()", x.start(), 1);
            check.due("about(6) with one more each time", x.about(6), i + 3);
        }
    }

    private static void headsInTurnOverCompactions() {
        check.about("the HEADS are CHANGED at each end of COMPACTION");
        BuildDisk x = Forge.withHead(4, 1, 7, 0);
        x.start();
        x.sync();
        for (int i = 1; i <= 5; i++) {
            x.compact(1000);
            x.sync();
            check.due("sector 0", number(x, 4, 4), 8 + 2 * i);
            check.due("sector 1", number(x, 512 + 4, 4), 9 + 2 * i);
            check.due("area in sector 0", x.sector(0, 8), i % 2);
            check.due("area in sector 1", x.sector(1, 8), i % 2);
        }
    }

    private static void greaterSequence() {
        check.about("promise 2: the one with the greater SEQUENCE counts");
        long[][] pairs = {{0, 1}, {2, 1}, {2, 3}, {128, 127}, {254, 255}, {256, 255}, {256, 1}, {65536, 65535}, {65534, 65535},
            {16777216, 16777215}, {16777216, 255}, {1999999998, 1999999999}, {1999999998, 1}, {0, 1999999999}, {1073741824, 1073741823}};
        for (long[] p : pairs) {
            BuildDisk x = new BuildDisk(4);
            Forge.put(x, 0, Forge.head(1, p[0], 0));
            Forge.put(x, 512, Forge.head(1, p[1], 1));
            check.due("start()", x.start(), 0);
            check.due("about(5) of " + p[0] + " and " + p[1], x.about(5), p[0] > p[1] ? 0 : 1);
            check.due("about(6) of " + p[0] + " and " + p[1], x.about(6), Math.max(p[0], p[1]) + 2);
        }
    }

    private static void areasInTurn() {
        check.about("the HEADS are CHANGED to the other AREA; it goes by that from now on");
        BuildDisk x = Forge.running(4);
        for (int i = 1; i <= 12; i++) {
            x.row(i, i);
            x.compact(1000);
            check.due("about(5)", x.about(5), i % 2);
            check.due("about(1)", x.about(1), i);
            x.sync();
            Forge.dueRow(check, x, 1024 + i % 2 * 512 + (i - 1) * 32, Forge.row(i - 1, 1, i, i));
        }
    }

    private static void areaOfTheNextStart() {
        check.about("promise 2: it goes by its AREA");
        BuildDisk x = Forge.running(4);
        for (int i = 1; i <= 8; i++) {
            x.row(1, i);
            x.compact(1000);
            x.cut(64, 0);
            check.due("start()", x.start(), 1);
            check.due("about(5)", x.about(5), i % 2);
            check.due("digest(1)", x.digest(1), i);
        }
    }

    private static void otherAreaIsClearedEachTime() {
        check.about("all SECTORS of the other AREA WAIT, with 0s, in order; none is COPIED");
        BuildDisk x = Forge.running(6);
        for (int i = 0; i < 20; i++) {
            x.row(i, i);
        }
        x.row(40, 1);
        x.compact(1000);
        check.due("about(1)", x.about(1), 21);
        x.sync();
        check.dueByte(x, 3, 4 * 32 + 1, 40);
        for (int keep = 0; keep <= 2; keep++) {
            x.compact(1);
            check.due("about(7)", x.about(7), 0);
            x.cut(keep, 0);
            check.dueByte(x, 2, 33, keep > 0 ? 0 : 1);
            check.dueByte(x, 3, 4 * 32 + 1, keep > 1 ? 0 : 40);
            check.due("start()", x.start(), 21);
            x.sync();
        }
    }
}
