/** Promises 1 (a new object), 2 (start), 13 (wrong) and 16 (edition). */
public final class StartTest {
    private static final Check check = new Check();

    public static void main(String[] args) {
        newObject();
        firstStart();
        startTwice();
        laterStarts();
        greaterSequenceCounts();
        badHeads();
        headLimits();
        unsummedHeads();
        headsThatDoNotCount();
        editionsOfHeads();
        editionOfTheGreaterHead();
        editionOfAHeadThatDoesNotCount();
        editionsTorn();
        editionLimits();
        editionWaitsForTheNextStart();
        refusedStartChangesNothing();
        placesThatHaveRows();
        placesThatHaveNone();
        wrongPlaces();
        oddSectors();
        startBegunAgain();
        startFromLess();
        startFromLocks();
        check.end();
    }

    private static void newObject() {
        check.about("promise 1");
        int[][] sizes = {{4, 4}, {5, 5}, {6, 6}, {39, 39}, {40, 40}, {3, 4}, {0, 4}, {-1, 4},
            {Integer.MIN_VALUE, 4}, {41, 40}, {1000, 40}, {Integer.MAX_VALUE, 40}};
        for (int[] size : sizes) {
            BuildDisk x = new BuildDisk(size[0]);
            int last = size[1] - 1;
            check.due("about(0)", x.about(0), 0);
            check.due("about(8)", x.about(8), (size[1] - 2) / 2 * 16);
            check.due("wrong()", x.wrong(), 0);
            check.dueByte(x, 0, 0, 0);
            check.dueByte(x, last, 511, 0);
            check.dueNoByte(x, last + 1, 0);
        }
        BuildDisk x = new BuildDisk(4);
        x.start();
        x.sync();
        check.dueByte(x, 1, 3, 1);
        check.due("NONE", BuildDisk.NONE, -1);
    }

    private static void firstStart() {
        check.about("promise 2, first start");
        BuildDisk x = new BuildDisk(7);
        Forge.put(x, 1024, Forge.row(0, 1, 5, 9));
        x.poke(2048, 7);
        check.due("start()", x.start(), 0);
        check.due("about(0)", x.about(0), 1);
        check.due("about(1)", x.about(1), 0);
        check.due("about(2)", x.about(2), 4);
        check.due("about(5)", x.about(5), 0);
        check.due("about(6)", x.about(6), 2);
        check.due("digest(5)", x.digest(5), 0);
        check.dueByte(x, 2, 0, 1);
        check.due("sync()", x.sync(), 4);
        check.dueByte(x, 2, 0, 0);
        check.dueByte(x, 4, 0, 7);
        Forge.dueHead(check, x, 1, Forge.head(1, 1, 0));
        Forge.dueHead(check, x, 0, Forge.head(1, 2, 0));
    }

    private static void startTwice() {
        check.about("promise 2, start when running");
        BuildDisk x = new BuildDisk(6);
        x.start();
        check.due("start()", x.start(), -3);
        check.due("about(2)", x.about(2), 4);
        check.due("about(6)", x.about(6), 2);
    }

    private static void laterStarts() {
        check.about("promise 2, later starts");
        BuildDisk x = new BuildDisk(6);
        x.start();
        x.row(5, 50);
        x.row(6, 60);
        x.asks(1, 5);
        x.asks(1, 63);
        x.lock(7);
        x.row(5, 51);
        x.sync();
        x.cut(0, 0);
        check.due("about(0)", x.about(0), 0);
        check.due("start()", x.start(), 4);
        check.due("about(1)", x.about(1), 4);
        check.due("about(2)", x.about(2), 2);
        check.due("about(4)", x.about(4), 7);
        check.due("about(6)", x.about(6), 4);
        check.due("digest(5)", x.digest(5), 51);
        check.due("digest(6)", x.digest(6), 60);
        check.due("asked(6, 0)", x.asked(6, 0), 5);
        check.due("asked(6, 1)", x.asked(6, 1), 63);
        check.due("asked(6, 2)", x.asked(6, 2), -1);
        x.sync();
        Forge.dueHead(check, x, 1, Forge.head(1, 3, 0));
        Forge.dueHead(check, x, 0, Forge.head(1, 4, 0));
    }

    private static void greaterSequenceCounts() {
        check.about("promise 2, the greater sequence");
        int[][] heads = {{10, 0, 11, 1, 1, 11}, {12, 0, 11, 1, 0, 12}, {2, 1, 1999999999, 0, 0, 1999999999}};
        for (int[] h : heads) {
            BuildDisk x = new BuildDisk(4);
            Forge.put(x, 0, Forge.head(1, h[0], h[1]));
            Forge.put(x, 512, Forge.head(1, h[2], h[3]));
            Forge.put(x, 1024, Forge.row(0, 1, 7, 100));
            Forge.put(x, 1536, Forge.row(0, 1, 7, 101));
            check.due("start()", x.start(), 1);
            check.due("about(5)", x.about(5), h[4]);
            check.due("about(6)", x.about(6), h[5] + 2);
            check.due("digest(7)", x.digest(7), 100 + h[4]);
        }
    }

    private static void badHeads() {
        check.about("promise 2, a torn head leaves the other");
        for (int byteOfHead : new int[] {0, 3, 7, 8, 9, 300, 507, 508, 511}) {
            BuildDisk x = new BuildDisk(4);
            x.start();
            x.row(1, 1);
            x.sync();
            x.cut(0, 0);
            x.poke(byteOfHead, 4);
            check.due("start() with one head", x.start(), 1);
            check.due("about(6)", x.about(6), 3);
            x.cut(0, 0);
            x.poke(512 + byteOfHead, 4);
            check.due("start() without a head", x.start(), 0);
            check.due("about(6)", x.about(6), 2);
        }
    }

    private static void headLimits() {
        check.about("promise 2, what a head must have");
        long[][] heads = { // sector, sequence, area, whether it counts
            {0, 0, 1, 1}, {1, 1, 1, 1}, {0, 1, 1, 0}, {1, 2, 1, 0}, {0, 4, 2, 0}, {0, 4, 255, 0}, {0, 4, 128, 0},
            {1, 1999999999L, 1, 1}, {0, 1999999998L, 1, 1}, {0, 2000000000L, 1, 0}, {1, 2000000001L, 1, 0},
            {0, 0x80000000L, 1, 0}, {1, 0xFFFFFFFFL, 1, 0}, {0, 0xFFFFFFFEL, 1, 0}};
        for (long[] h : heads) {
            BuildDisk x = new BuildDisk(6);
            Forge.put(x, (int) h[0] * 512, Forge.head(1, h[1], (int) h[2]));
            Forge.put(x, 4 * 512, Forge.row(0, 1, 0, 1));
            check.due("start() by sequence " + h[1] + " and area " + h[2], x.start(), h[3]);
            check.due("about(6)", x.about(6), h[3] == 1 ? h[1] + 2 : 2);
            check.due("about(5)", x.about(5), h[3]);
        }
    }

    private static void unsummedHeads() {
        check.about("promise 2, a head whose other bytes are not 0 but summed");
        BuildDisk x = new BuildDisk(4);
        int[] head = Forge.head(1, 6, 1);
        head[200] = 17;
        Forge.number(head, 508, 4, Forge.sum(head, 508, 6));
        Forge.put(x, 0, head);
        check.due("start()", x.start(), 0);
        check.due("about(6)", x.about(6), 8);
        x.sync();
        Forge.dueHead(check, x, 0, Forge.head(1, 8, 1));
        check.dueByte(x, 0, 200, 0);
    }

    /** A head of area 0 that counts, beside another one: which of the two it goes by. */
    private static void dueBeside(String what, int sector, long sequence, int[] beside, boolean counts, long greater) {
        BuildDisk x = new BuildDisk(4);
        Forge.put(x, (1 - sector) * 512, Forge.head(1, sequence, 0));
        Forge.put(x, sector * 512, beside);
        Forge.put(x, 1024, Forge.row(0, 1, 7, 100));
        Forge.put(x, 1536, Forge.row(0, 1, 8, 100));
        check.due("start() beside " + what, x.start(), 1);
        check.due("digest(7) beside " + what, x.digest(7), counts ? 0 : 100);
        check.due("about(6) beside " + what, x.about(6), (counts ? greater : sequence) + 2);
    }

    private static void headsThatDoNotCount() {
        check.about("promise 2: of the HEADS that have their SUM, a SEQUENCE below 2000000000, in its SECTOR, and an AREA 0 or 1, "
            + "the one with the greater SEQUENCE counts");
        for (int sector = 0; sector < 2; sector++) {
            long sequence = 11 - sector;
            long greater = 20 + sector;
            dueBeside("a greater head", sector, sequence, Forge.head(1, greater, 1), true, greater);
            int[] unsummed = Forge.head(1, greater, 1);
            unsummed[508] ^= 1;
            dueBeside("one without its sum", sector, sequence, unsummed, false, greater);
            dueBeside("the sequence 2000000000", sector, sequence, Forge.head(1, 2000000000L + sector, 1), false, greater);
            dueBeside("a sequence of 32 bits", sector, sequence, Forge.head(1, 0xFFFFFFFEL + sector, 1), false, greater);
            dueBeside("one in the other's sector", sector, sequence, Forge.head(1, greater + 1, 1), false, greater);
            dueBeside("the area 2", sector, sequence, Forge.head(1, greater, 2), false, greater);
            dueBeside("the area 255", sector, sequence, Forge.head(1, greater, 255), false, greater);
        }
    }

    private static void editionsOfHeads() {
        check.about("promise 2, editions");
        long[][] editions = { // the one that it goes by, that of the head, the answer
            {1, 1, 0}, {1, 0, 0}, {1, 2, -1}, {1, 0xFFFFFFFFL, -1}, {5, 5, 0}, {5, 4, 0}, {5, 3, -1}, {5, 6, -1},
            {200, 200, 0}, {200, 199, 0}, {200, 201, -1}, {200, 198, -1}, {5, 0x01000005L, -1}, {5, 0x80000005L, -1}};
        for (long[] e : editions) {
            BuildDisk x = new BuildDisk(4);
            x.edition((int) e[0]);
            Forge.put(x, 512, Forge.head(e[1], 3, 0));
            check.due("start() by edition " + e[0] + " on " + e[1], x.start(), e[2]);
            check.due("about(0)", x.about(0), e[2] == 0 ? 1 : 0);
            check.due("about(6)", x.about(6), e[2] == 0 ? 5 : -1);
        }
    }

    private static void editionOfTheGreaterHead() {
        check.about("promise 2: the one with the greater SEQUENCE counts: if its EDITION is neither the one that it goes by nor one less");
        for (int sector = 0; sector < 2; sector++) {
            for (int lesser : new int[] {0, 3, 4, 5, 6, 200}) {
                for (int greater : new int[] {0, 3, 4, 5, 6, 200}) {
                    BuildDisk x = new BuildDisk(4);
                    Forge.put(x, sector * 512, Forge.head(greater, 20 + sector, 1));
                    Forge.put(x, (1 - sector) * 512, Forge.head(lesser, 11 - sector, 0));
                    x.edition(5);
                    boolean fits = greater == 5 || greater == 4;
                    check.due("start() by 5 on " + greater + " and the lesser " + lesser, x.start(), fits ? 0 : -1);
                    check.due("about(5)", x.about(5), fits ? 1 : -1);
                    check.due("about(6)", x.about(6), fits ? 22 + sector : -1);
                }
            }
        }
    }

    private static void editionOfAHeadThatDoesNotCount() {
        check.about("promise 2: the EDITION of a HEAD that does not count");
        int[][] others = {Forge.head(9, 21, 2), Forge.head(9, 22, 1), Forge.head(9, 2000000001L, 1)};
        for (int[] other : others) {
            BuildDisk x = new BuildDisk(4);
            Forge.put(x, 512, other);
            check.due("start() by 1 without a head", x.start(), 0);
            check.due("about(6)", x.about(6), 2);
            BuildDisk y = new BuildDisk(4);
            Forge.put(y, 0, Forge.head(1, 10, 0));
            Forge.put(y, 512, other);
            check.due("start() by 1 beside it", y.start(), 0);
            check.due("about(6)", y.about(6), 12);
        }
    }

    private static void editionsTorn() {
        check.about("promise 2: HEADS of two EDITIONS, as a cut leaves them");
        for (int keep = 0; keep <= 2; keep++) {
            for (int e = 1; e <= 4; e++) {
                BuildDisk x = new BuildDisk(4);
                x.start();
                x.row(1, 11);
                x.sync();
                x.edition(2);
                x.cut(0, 0);
                x.start();
                x.cut(keep, 0);
                x.edition(e);
                int counts = keep == 0 ? 1 : 2;
                check.due("start() by " + e + " behind cut(" + keep + ", 0)", x.start(), e == counts || e == counts + 1 ? 1 : -1);
            }
        }
    }

    private static void editionLimits() {
        check.about("promise 16, limits");
        BuildDisk x = new BuildDisk(4);
        int[][] calls = {{1, 1}, {200, 1}, {0, -2}, {-1, -2}, {201, -2}, {Integer.MAX_VALUE, -2}, {Integer.MIN_VALUE, -2}};
        for (int[] c : calls) {
            check.due("edition(" + c[0] + ")", x.edition(c[0]), c[1]);
        }
        x.start();
        x.sync();
        Forge.dueHead(check, x, 0, Forge.head(200, 2, 0));
        check.due("edition(0) when running", x.edition(0), -2);
    }

    private static void editionWaitsForTheNextStart() {
        check.about("promise 16, from the next start on");
        BuildDisk x = new BuildDisk(4);
        x.edition(7);
        x.start();
        check.due("edition(8)", x.edition(8), 1);
        check.due("start()", x.start(), -3);
        check.due("compact(9)", x.compact(9), 2);
        x.sync();
        Forge.dueHead(check, x, 1, Forge.head(7, 3, 1));
        Forge.dueHead(check, x, 0, Forge.head(7, 4, 1));
        x.cut(0, 0);
        check.due("start()", x.start(), 0);
        x.sync();
        Forge.dueHead(check, x, 1, Forge.head(8, 5, 1));
        Forge.dueHead(check, x, 0, Forge.head(8, 6, 1));
        check.due("edition(10)", x.edition(10), 1);
        x.cut(0, 0);
        check.due("start()", x.start(), -1);
    }

    private static void refusedStartChangesNothing() {
        check.about("promise 2, - 1 and nothing happens");
        BuildDisk x = new BuildDisk(4);
        x.start();
        x.row(1, 10);
        x.row(2, 20);
        x.sync();
        x.poke(1024, 1);
        x.cut(0, 0);
        x.start();
        check.due("wrong()", x.wrong(), 1);
        x.sync();
        x.cut(0, 0);
        x.poke(1024, 1);
        x.edition(9);
        check.due("start()", x.start(), -1);
        check.due("about(0)", x.about(0), 0);
        check.due("about(2)", x.about(2), -1);
        check.due("wrong()", x.wrong(), 1);
        check.dueByte(x, 0, 3, 1);
        check.dueByte(x, 0, 7, 4);
        x.edition(1);
        check.due("start()", x.start(), 2);
        check.due("about(6)", x.about(6), 6);
        check.due("wrong()", x.wrong(), 0);
    }

    private static BuildDisk withHead() {
        return Forge.withHead(4, 1, 2, 0);
    }

    private static void placesThatHaveRows() {
        check.about("promise 2, what has a row");
        int[] oddTail = Forge.row(3, 1, 9, 5, 8);
        oddTail[4] = 200;
        oddTail[12] = 3;
        oddTail[26] = 1;
        int[][] rows = {Forge.row(3, 1, 0, Long.MIN_VALUE), Forge.row(3, 1, 63, -1, 63, 0, 1, 1, 63, 63),
            Forge.row(3, 2, 0, 0), Forge.row(3, 2, 7, 0), Forge.row(3, 3, 7, 0), Forge.row(3, 2, 7, 99),
            Forge.summed(oddTail, 3)};
        for (int[] row : rows) {
            BuildDisk x = withHead();
            Forge.put(x, 1024 + 96, row);
            check.due("start()", x.start(), 1);
            check.due("about(1)", x.about(1), 4);
            check.due("wrong()", x.wrong(), 3);
        }
    }

    private static void placesThatHaveNone() {
        check.about("promise 2, what has no row");
        int[] manyAsks = Forge.row(3, 1, 1, 1);
        manyAsks[2] = 255;
        int[][] rows = {Forge.row(3, 0, 1, 1), Forge.row(3, 4, 1, 1), Forge.row(3, 255, 1, 1), Forge.row(3, 129, 1, 1),
            Forge.row(3, 1, 64, 1), Forge.row(3, 1, 255, 1), Forge.row(3, 1, 128, 1), Forge.row(3, 2, 8, 0), Forge.row(3, 3, 8, 0),
            Forge.row(3, 3, 255, 0), Forge.row(3, 1, 1, 1, 64), Forge.row(3, 1, 1, 1, 0, 0, 0, 0, 0, 64),
            Forge.row(3, 1, 1, 1, 255), Forge.row(3, 1, 1, 1, 0, 0, 0, 0, 0, 0, 0), Forge.summed(manyAsks, 3),
            Forge.row(3, 2, 1, 0, 1), Forge.row(3, 3, 1, 0, 1), Forge.row(2, 1, 1, 1), Forge.row(19, 1, 1, 1)};
        for (int[] row : rows) {
            BuildDisk x = withHead();
            Forge.put(x, 1024 + 96, row);
            check.due("start()", x.start(), 0);
            check.due("about(1)", x.about(1), 0);
            check.due("wrong()", x.wrong(), 0);
        }
    }

    private static void wrongPlaces() {
        check.about("promise 13");
        BuildDisk x = withHead();
        Forge.put(x, 1024 + 32 * 2, Forge.row(2, 1, 20, 1));
        Forge.put(x, 1024 + 32 * 5, Forge.row(5, 1, 21, 1));
        Forge.put(x, 1024 + 32 * 15, Forge.row(15, 1, 22, 1));
        check.due("wrong()", x.wrong(), 0);
        check.due("start()", x.start(), 3);
        check.due("wrong()", x.wrong(), 13);
        check.due("about(1)", x.about(1), 16);
        check.due("compact(1000)", x.compact(1000), 18);
        check.due("wrong() behind compaction", x.wrong(), 13);
        x.sync();
        x.cut(0, 0);
        check.due("wrong() when not running", x.wrong(), 13);
        check.due("start()", x.start(), 1);
        check.due("wrong()", x.wrong(), 0);
        x.poke(0, 1);
        x.poke(512, 1);
        x.cut(0, 0);
        check.due("start()", x.start(), 0);
        check.due("wrong()", x.wrong(), 0);
    }

    private static void oddSectors() {
        check.about("promise 2, an odd number of sectors");
        BuildDisk x = new BuildDisk(9);
        check.due("about(8)", x.about(8), 48);
        x.start();
        check.due("sync()", x.sync(), 5);
        x.row(4, 4);
        check.due("compact(1000)", x.compact(1000), 3);
        x.sync();
        check.dueByte(x, 5, 1, 4);
        x.cut(0, 0);
        check.due("start()", x.start(), 1);
        check.due("digest(4)", x.digest(4), 4);
    }

    private static void startBegunAgain() {
        check.about("promise 2, a start begun again and again");
        for (int keep = 0; keep <= 3; keep++) {
            for (int tear : new int[] {0, 1, 8, 400, 511, 512}) {
                BuildDisk x = new BuildDisk(4);
                x.start();
                x.row(1, 11);
                x.sync();
                for (int i = 0; i < 5; i++) {
                    x.cut(keep, tear);
                    check.due("start()", x.start(), 1);
                    check.due("digest(1)", x.digest(1), 11);
                }
            }
        }
    }

    private static void startFromLess() {
        check.about("promise 2, nothing of an earlier run is left");
        BuildDisk x = new BuildDisk(4);
        x.start();
        x.compact(2);
        x.sync();
        check.due("about(5)", x.about(5), 1);
        for (int i = 0; i < 5; i++) {
            x.row(0, 7);
            x.asks(i, 9);
        }
        x.lock(4);
        x.cut(0, 0);
        check.due("start()", x.start(), 0);
        check.due("about(1)", x.about(1), 0);
        check.due("about(4)", x.about(4), -1);
        check.due("digest(0)", x.digest(0), 0);
        check.due("asks(0, 1)", x.asks(0, 1), -1);
        check.due("row(3, 3)", x.row(3, 3), 0);
        check.due("asked(3, 0)", x.asked(3, 0), -1);
        check.due("asks(1, 1)", x.asks(1, 1), -1);
        check.due("asks(0, 1)", x.asks(0, 1), 1);
        x.cut(0, 0);
        x.poke(0, 1);
        x.poke(512, 1);
        check.due("start() without a head", x.start(), 0);
        check.due("about(5)", x.about(5), 0);
        check.due("about(6)", x.about(6), 2);
        check.due("about(1)", x.about(1), 0);
        check.due("digest(3)", x.digest(3), 0);
    }

    private static void startFromLocks() {
        check.about("promise 2, asks and locks read");
        BuildDisk x = withHead();
        Forge.put(x, 1024, Forge.row(0, 1, 0, 11, 33, 34, 35, 36, 37, 38));
        Forge.put(x, 1024 + 32, Forge.row(1, 2, 6, 0));
        check.due("start()", x.start(), 2);
        for (int i = 0; i < 6; i++) {
            check.due("asked(0, " + i + ")", x.asked(0, i), 33 + i);
        }
        check.due("digest(0)", x.digest(0), 11);
        check.due("about(4)", x.about(4), 6);
        x.cut(0, 0);
        Forge.change(x, 1024 + 32, Forge.row(1, 2, 6, 0), Forge.row(1, 3, 6, 0));
        x.start();
        check.due("about(4)", x.about(4), -1);
        check.due("lock(5)", x.lock(5), 1);
        check.due("row(0, 5)", x.row(0, 5), 3);
        check.due("asked(0, 0)", x.asked(0, 0), -1);
        x.compact(1000);
        check.due("about(1)", x.about(1), 2);
        check.due("asks(2, 1)", x.asks(2, 1), -1);
    }
}
