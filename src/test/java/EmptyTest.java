/** Empty: no head, no row, no row of a key, nobody who has the lock, nothing that waits, compaction of no row. */
public final class EmptyTest {
    private static final Check check = new Check();

    public static void main(String[] args) {
        newDisk();
        newObject();
        startWithoutAHead();
        zerosWaitInOrder();
        rowsWithoutAHeadAreLost();
        oneHeadAlone();
        headsWithoutTheirSum();
        headsInTheOtherSector();
        areaWithoutARow();
        areaOfOtherBytes();
        oneRowAlone();
        keyWithoutARow();
        keyAskedWithoutARow();
        rowThatAsksNone();
        nobodyHasTheLock();
        freedLeavesNobody();
        nothingWaitsAtSync();
        nothingWaitsAtCut();
        noKeyIsUnkept();
        noneIsWrong();
        wrongAheadOfAnyStart();
        compactionOfNoRow();
        compactionOfNoRowTwice();
        compactionThatTakesLateRows();
        compactionThatCopiesOnlyALock();
        check.end();
    }

    private static void newDisk() {
        check.about("S SECTORS of 512 bytes, all 0 at first");
        for (int sectors : new int[] {4, 5, 40}) {
            for (int n = 0; n < sectors; n++) {
                BuildDisk x = new BuildDisk(sectors);
                int notZero = 0;
                for (int i = 0; i < 512; i++) {
                    notZero += x.sector(n, i) != 0 ? 1 : 0;
                }
                check.due("bytes of sector " + n + " that are not 0", notZero, 0);
            }
        }
    }

    private static void newObject() {
        check.about("promise 1: it is not RUNNING; its EDITION is 1");
        BuildDisk x = new BuildDisk(4);
        check.due("about(0)", x.about(0), 0);
        for (int what = 1; what <= 7; what++) {
            check.due("about(" + what + ")", x.about(what), -1);
        }
        check.due("start()", x.start(), 0);
        x.sync();
        Forge.dueHead(check, x, 1, Forge.head(1, 1, 0));
        Forge.dueHead(check, x, 0, Forge.head(1, 2, 0));
    }

    private static void dueEmpty(BuildDisk x, int area, int sequence, int waiting) {
        check.due("start()", x.start(), 0);
        check.due("about(0)", x.about(0), 1);
        check.due("about(1)", x.about(1), 0);
        check.due("about(2)", x.about(2), waiting);
        check.due("about(3)", x.about(3), 0);
        check.due("about(4)", x.about(4), -1);
        check.due("about(5)", x.about(5), area);
        check.due("about(6)", x.about(6), sequence);
        check.due("about(7)", x.about(7), -1);
        check.due("wrong()", x.wrong(), 0);
        check.due("row(1, 1)", x.row(1, 1), 0);
    }

    private static void startWithoutAHead() {
        check.about("promise 2: without such a HEAD: SEQUENCE 0, AREA 0, whose SECTORS WAIT with 0s; END is 0");
        dueEmpty(new BuildDisk(4), 0, 2, 3);
        dueEmpty(new BuildDisk(9), 0, 2, 5);
        dueEmpty(new BuildDisk(40), 0, 2, 21);
        BuildDisk x = Forge.running(6);
        x.compact(2);
        x.row(1, 1);
        x.sync();
        check.due("about(5)", x.about(5), 1);
        x.poke(0, 1);
        x.poke(512, 1);
        x.cut(0, 0);
        dueEmpty(x, 0, 2, 4);
    }

    private static void zerosWaitInOrder() {
        check.about("promise 2: whose SECTORS WAIT with 0s, in order (and the HEADS behind them)");
        for (int keep = 0; keep <= 5; keep++) {
            BuildDisk x = new BuildDisk(8);
            for (int n = 0; n < 8; n++) {
                x.poke(n * 512 + 100, 9);
            }
            x.start();
            x.cut(keep, 0);
            for (int i = 0; i < 3; i++) {
                check.dueByte(x, 2 + i, 100, i < keep ? 0 : 9);
                check.dueByte(x, 5 + i, 100, 9);
            }
            check.dueByte(x, 1, 100, keep > 3 ? 0 : 9);
            check.dueByte(x, 0, 100, keep > 4 ? 0 : 9);
        }
    }

    private static void rowsWithoutAHeadAreLost() {
        check.about("promise 2: without such a HEAD: END is 0, also where there were ROWS");
        BuildDisk x = new BuildDisk(4);
        Forge.put(x, 1024, Forge.row(0, 1, 3, 33));
        Forge.put(x, 1024 + 32, Forge.row(1, 2, 5, 0));
        check.due("start()", x.start(), 0);
        check.due("about(1)", x.about(1), 0);
        check.due("digest(3)", x.digest(3), 0);
        check.due("about(4)", x.about(4), -1);
        x.sync();
        check.dueByte(x, 2, 0, 0);
        check.dueByte(x, 2, 32, 0);
        x.cut(0, 0);
        check.due("start()", x.start(), 0);
    }

    private static void oneHeadAlone() {
        check.about("promise 2: one HEAD alone counts");
        for (int sequence : new int[] {0, 1, 2, 3}) {
            for (int area = 0; area < 2; area++) {
                dueEmpty(Forge.withHead(4, 1, sequence, area), area, sequence + 2, 2);
            }
        }
    }

    private static void headsWithoutTheirSum() {
        check.about("promise 2: of the HEADS on the DISK that have their SUM");
        for (int i = 0; i < 512; i++) {
            BuildDisk x = Forge.withHead(4, 1, 6, 0);
            Forge.put(x, 1024, Forge.row(0, 1, 3, 33));
            x.poke(i, 1);
            check.due("start() with byte " + i + " changed", x.start(), 0);
            check.due("about(6)", x.about(6), 2);
        }
    }

    private static void headsInTheOtherSector() {
        check.about("promise 2: a SEQUENCE in its SECTOR");
        for (int sequence = 0; sequence < 8; sequence++) {
            BuildDisk x = new BuildDisk(4);
            Forge.put(x, (sequence + 1) % 2 * 512, Forge.head(1, sequence, 1));
            dueEmpty(x, 0, 2, 3);
        }
    }

    private static void areaWithoutARow() {
        check.about("promise 2: an AREA without a ROW");
        dueEmpty(Forge.withHead(4, 1, 2, 0), 0, 4, 2);
        dueEmpty(Forge.withHead(40, 1, 3, 1), 1, 5, 2);
        BuildDisk x = Forge.withHead(4, 1, 2, 0);
        Forge.put(x, 1536, Forge.row(0, 1, 3, 33));
        dueEmpty(x, 0, 4, 2);
        check.due("digest(3) of the other area", x.digest(3), 0);
        x.row(2, 2);
        x.lock(3);
        x.cut(0, 0);
        dueEmpty(x, 0, 4, 2);
        check.due("digest(2) of a row that did not come", x.digest(2), 0);
    }

    private static void areaOfOtherBytes() {
        check.about("promise 2: PLACES behind the last ROW are not WRONG, whatever is there");
        BuildDisk x = Forge.withHead(4, 1, 2, 0);
        for (int i = 0; i < 16; i++) {
            x.poke(1024 + i * 32, 1 + i % 3);
            x.poke(1024 + i * 32 + 31, 7);
        }
        dueEmpty(x, 0, 4, 2);
        x.sync();
        Forge.dueRow(check, x, 1024, Forge.row(0, 1, 1, 1));
        check.dueByte(x, 2, 32, 2);
        check.dueByte(x, 2, 511, 7);
    }

    private static void oneRowAlone() {
        check.about("promise 2: an AREA of one ROW");
        BuildDisk x = Forge.withHead(4, 1, 2, 0);
        Forge.put(x, 1024, Forge.row(0, 1, 3, 33));
        check.due("start()", x.start(), 1);
        check.due("about(1)", x.about(1), 1);
        check.due("wrong()", x.wrong(), 0);
        check.due("sure(3)", x.sure(3), true);
    }

    private static void keyWithoutARow() {
        check.about("a KEY without a ROW: digest 0, asked NONE, sure false");
        BuildDisk x = Forge.running(4);
        for (int round = 0; round < 2; round++) {
            for (int key : new int[] {0, 1, 2, 31, 63}) {
                check.due("digest(" + key + ")", x.digest(key), 0);
                check.due("asked(" + key + ", 0)", x.asked(key, 0), -1);
                check.due("sure(" + key + ")", x.sure(key), false);
            }
            x.row(5, 55);
            x.asks(0, 2);
            x.lock(1);
        }
    }

    private static void keyAskedWithoutARow() {
        check.about("SURE: each KEY that it ASKS has its LATEST ROW ahead of it");
        BuildDisk x = Forge.running(4);
        x.row(1, 1);
        check.due("sure(1)", x.sure(1), true);
        x.asks(0, 2);
        check.due("sure(1) asks one without a row", x.sure(1), false);
        x.lock(2);
        check.due("sure(1) and a user of this number", x.sure(1), false);
    }

    private static void rowThatAsksNone() {
        check.about("promise 3: a ROW which ASKS none");
        BuildDisk x = Forge.running(4);
        x.row(1, 1);
        x.asks(0, 9);
        x.row(1, 2);
        check.due("asked(1, 0)", x.asked(1, 0), -1);
        check.due("sure(1)", x.sure(1), true);
        x.sync();
        Forge.dueRow(check, x, 1024 + 32, Forge.row(1, 1, 1, 2));
    }

    private static void nobodyHasTheLock() {
        check.about("promises 14, 15, 17: nobody has the LOCK");
        for (int user = 0; user < 8; user++) {
            BuildDisk x = Forge.running(4);
            x.row(user, 1);
            check.due("about(4)", x.about(4), -1);
            check.due("dead(" + user + ")", x.dead(user), 0);
            check.due("about(1)", x.about(1), 1);
            check.due("lock(" + user + ")", x.lock(user), 1);
            check.due("about(1)", x.about(1), 2);
            check.due("about(4)", x.about(4), user);
        }
    }

    private static void freedLeavesNobody() {
        check.about("THE LOCK ROW the highest of LOCK and FREED; if that is LOCK its USER has the LOCK");
        BuildDisk x = Forge.withHead(4, 1, 2, 0);
        Forge.put(x, 1024, Forge.row(0, 2, 5, 0));
        Forge.put(x, 1024 + 32, Forge.row(1, 3, 4, 0));
        check.due("start()", x.start(), 2);
        check.due("about(4)", x.about(4), -1);
        check.due("dead(5)", x.dead(5), 0);
        check.due("dead(4)", x.dead(4), 0);
        check.due("lock(6)", x.lock(6), 1);
        check.due("about(4)", x.about(4), 6);
    }

    private static void nothingWaitsAtSync() {
        check.about("promise 5: nothing WAITS");
        BuildDisk x = Forge.running(4);
        check.due("about(2)", x.about(2), 0);
        check.due("sync()", x.sync(), 0);
        check.due("sync()", x.sync(), 0);
        x.row(1, 1);
        check.due("sync()", x.sync(), 1);
        check.due("sync()", x.sync(), 0);
        check.due("about(2)", x.about(2), 0);
    }

    private static void nothingWaitsAtCut() {
        check.about("promise 7: of the next one (if there is one)");
        for (int[] c : new int[][] {{0, 0}, {0, 512}, {5, 5}, {-1, -1}, {64, 512}}) {
            BuildDisk x = Forge.running(4);
            x.row(1, 1);
            x.sync();
            x.poke(1024 + 300, 5);
            x.cut(c[0], c[1]);
            check.due("about(0)", x.about(0), 0);
            check.dueByte(x, 2, 0, 1);
            check.dueByte(x, 2, 300, 5);
            check.due("start()", x.start(), 1);
            check.due("about(2)", x.about(2), 2);
        }
    }

    private static void noKeyIsUnkept() {
        check.about("promise 17: no KEY is UNKEPT");
        BuildDisk x = Forge.running(4);
        check.due("about(3)", x.about(3), 0);
        Forge.fill(x, 1);
        check.due("about(3)", x.about(3), 0);
        x.lock(1);
        x.dead(1);
        check.due("about(3)", x.about(3), 0);
    }

    private static void noneIsWrong() {
        check.about("promise 13: none is WRONG");
        BuildDisk x = Forge.running(4);
        Forge.fill(x, 1);
        check.due("wrong()", x.wrong(), 0);
        x.cut(64, 0);
        check.due("start()", x.start(), 16);
        check.due("wrong()", x.wrong(), 0);
    }

    private static void wrongAheadOfAnyStart() {
        check.about("promise 13: (0 ahead of any)");
        BuildDisk x = Forge.withHead(4, 1, 2, 0);
        Forge.put(x, 1024 + 32, Forge.row(1, 1, 3, 33));
        check.due("wrong()", x.wrong(), 0);
        x.cut(0, 0);
        check.due("wrong() behind a cut", x.wrong(), 0);
        x.edition(5);
        check.due("start()", x.start(), -1);
        check.due("wrong() behind a refused start", x.wrong(), 0);
        x.edition(1);
        check.due("start()", x.start(), 1);
        check.due("wrong()", x.wrong(), 1);
    }

    private static void compactionOfNoRow() {
        check.about("promise 6: COMPACTION of no ROW: the first step, and the one that ends it");
        BuildDisk x = Forge.running(8);
        x.poke(5 * 512, 9);
        x.poke(6 * 512 + 77, 9);
        x.poke(7 * 512 + 511, 9);
        check.due("compact(1)", x.compact(1), 1);
        check.due("about(7)", x.about(7), 0);
        check.due("about(2)", x.about(2), 3);
        check.due("about(5)", x.about(5), 0);
        check.due("compact(1)", x.compact(1), 1);
        check.due("about(7)", x.about(7), -1);
        check.due("about(2)", x.about(2), 5);
        check.due("about(1)", x.about(1), 0);
        check.due("about(5)", x.about(5), 1);
        check.due("about(6)", x.about(6), 4);
        x.sync();
        check.dueByte(x, 5, 0, 0);
        check.dueByte(x, 6, 77, 0);
        check.dueByte(x, 7, 511, 0);
        Forge.dueHead(check, x, 1, Forge.head(1, 3, 1));
        Forge.dueHead(check, x, 0, Forge.head(1, 4, 1));
        x.cut(0, 0);
        check.due("start()", x.start(), 0);
        check.due("about(5)", x.about(5), 1);
    }

    private static void compactionOfNoRowTwice() {
        check.about("promise 6: up to the one that ends it, and anew");
        BuildDisk x = Forge.running(4);
        for (int i = 1; i <= 20; i++) {
            check.due("compact(1000)", x.compact(1000), 2);
            check.due("about(5)", x.about(5), i % 2);
            check.due("about(6)", x.about(6), 2 + 2 * i);
            check.due("about(1)", x.about(1), 0);
        }
        check.due("row(1, 1)", x.row(1, 1), 0);
    }

    private static void compactionThatTakesLateRows() {
        check.about("COMPACTION up to END as it is then: ROWS that were KEPT behind its first step, too");
        BuildDisk x = Forge.running(4);
        x.compact(1);
        x.row(1, 11);
        x.lock(4);
        check.due("about(7)", x.about(7), 0);
        check.due("compact(1000)", x.compact(1000), 3);
        check.due("about(1)", x.about(1), 2);
        check.due("digest(1)", x.digest(1), 11);
        check.due("about(4)", x.about(4), 4);
    }

    private static void compactionThatCopiesOnlyALock() {
        check.about("COMPACTION of no ROW of a KEY");
        BuildDisk x = Forge.running(4);
        x.lock(4);
        x.dead(4);
        check.due("compact(1000)", x.compact(1000), 4);
        check.due("about(1)", x.about(1), 1);
        check.due("about(4)", x.about(4), -1);
        x.sync();
        Forge.dueRow(check, x, 1536, Forge.row(0, 3, 4, 0));
        check.dueByte(x, 3, 32, 0);
    }
}
