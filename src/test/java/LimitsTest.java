/** Too small and too large: the least and the greatest of each number that the document bounds, and what is beyond them. */
public final class LimitsTest {
    private static final Check check = new Check();
    private static final int LEAST = Integer.MIN_VALUE;
    private static final int MOST = Integer.MAX_VALUE;

    public static void main(String[] args) {
        fewestSectors();
        mostSectors();
        areasOfEachSize();
        sectorBehindTheAreas();
        keysOfRow();
        keysOfAsks();
        keysOfDigest();
        keysOfAsked();
        keysOfSure();
        keysOnTheDisk();
        usersOfLock();
        usersOfDead();
        usersOnTheDisk();
        kindsOnTheDisk();
        asksOnTheDisk();
        askedKeysOnTheDisk();
        locksThatAskOnTheDisk();
        lastPlaceOnTheDisk();
        sequenceLimit();
        sequencePassesTheLimit();
        areasOfHeads();
        editionOrOneLess();
        leastEdition();
        rowsThatMayAsk();
        fewestSteps();
        mostSteps();
        stepsUpToTheEnd();
        keepBelowZero();
        keepMoreThanWait();
        tearBelowZero();
        tearAbove512();
        tearOfEachSector();
        indexOfAsked();
        bytesOfSector();
        sectorsOfSector();
        placesOfPoke();
        masksOfPoke();
        editions();
        abouts();
        check.end();
    }

    private static void size(int sectors, int want) {
        BuildDisk x = new BuildDisk(sectors);
        String made = " of BuildDisk(" + sectors + ")";
        check.due("about(8)" + made, x.about(8), (want - 2) / 2 * 16);
        check.dueByte(x, want - 1, 511, 0);
        check.dueNoByte(x, want, 0);
        check.due("poke(last)" + made, x.poke(want * 512 - 1, 1), 1);
        check.due("poke(behind)" + made, x.poke(want * 512, 1), -2);
        check.due("start()" + made, x.start(), 0);
        check.due("sync()" + made, x.sync(), (want - 2) / 2 + 2);
    }

    private static void fewestSectors() {
        check.about("promise 1: less counts as 4");
        for (int sectors : new int[] {3, 2, 1, 0, -1, -40, LEAST, 4}) {
            size(sectors, 4);
        }
    }

    private static void mostSectors() {
        check.about("promise 1: more as 40");
        for (int sectors : new int[] {41, 42, 64, 1000, MOST, 40}) {
            size(sectors, 40);
        }
    }

    private static void areasOfEachSize() {
        check.about("promise 1: S 4 .. 40; two AREAS of (S - 2) / 2 SECTORS each (cut)");
        for (int sectors = 4; sectors <= 40; sectors++) {
            size(sectors, sectors);
            int area = (sectors - 2) / 2;
            BuildDisk x = Forge.running(sectors);
            x.row(9, 5);
            x.sync();
            check.dueByte(x, 2, 1, 9);
            check.due("compact(3)", x.compact(3), 3);
            check.due("sync()", x.sync(), area + 3);
            check.dueByte(x, 2 + area, 1, 9);
        }
    }

    private static void sectorBehindTheAreas() {
        check.about("(cut): of an odd number of SECTORS the last one is in no AREA");
        for (int sectors = 5; sectors < 40; sectors += 2) {
            for (int area = 0; area < 2; area++) {
                BuildDisk x = Forge.withHead(sectors, 1, 2, area);
                x.poke(sectors * 512 - 512, 1);
                x.poke(sectors * 512 - 1, 77);
                x.start();
                check.due("about(5)", x.about(5), area);
                Forge.fill(x, 3);
                check.due("row(3, 1)", x.row(3, 1), -4);
                x.compact(1000);
                x.sync();
                check.dueByte(x, sectors - 1, 0, 1);
                check.dueByte(x, sectors - 1, 511, 77);
            }
        }
    }

    private static void keysOfRow() {
        check.about("KEYS are 0 .. 63, promise 3");
        BuildDisk x = Forge.running(4);
        check.due("row(0, 1)", x.row(0, 1), 0);
        check.due("row(63, 1)", x.row(63, 1), 1);
        for (int key : new int[] {-1, 64, 65, 127, 128, 255, 256, 319, LEAST, MOST}) {
            check.due("row(" + key + ", 1)", x.row(key, 1), -2);
        }
    }

    private static void keysOfAsks() {
        check.about("KEYS are 0 .. 63, promise 4");
        BuildDisk x = Forge.running(4);
        x.row(5, 1);
        check.due("asks(0, 0)", x.asks(0, 0), 1);
        check.due("asks(0, 63)", x.asks(0, 63), 2);
        for (int key : new int[] {-1, 64, 65, 127, 128, 255, 256, 319, LEAST, MOST}) {
            check.due("asks(0, " + key + ")", x.asks(0, key), -2);
        }
        check.due("asked(5, 0)", x.asked(5, 0), 0);
        check.due("asked(5, 1)", x.asked(5, 1), 63);
        check.due("asked(5, 2)", x.asked(5, 2), -1);
    }

    private static BuildDisk keysAtTheEnds() {
        BuildDisk x = Forge.running(4);
        x.row(0, 10);
        x.asks(0, 7);
        x.row(63, 11);
        x.asks(1, 8);
        x.row(7, 0);
        x.row(8, 0);
        x.row(0, 10);
        x.asks(4, 7);
        x.row(63, 11);
        x.asks(5, 8);
        return x;
    }

    private static void keysOfDigest() {
        check.about("KEYS are 0 .. 63, promise 8");
        BuildDisk x = keysAtTheEnds();
        check.due("digest(0)", x.digest(0), 10);
        check.due("digest(63)", x.digest(63), 11);
        check.due("digest(-1)", x.digest(-1), 0);
        check.due("digest(64)", x.digest(64), 0);
    }

    private static void keysOfAsked() {
        check.about("KEYS are 0 .. 63, promise 9");
        BuildDisk x = keysAtTheEnds();
        check.due("asked(0, 0)", x.asked(0, 0), 7);
        check.due("asked(63, 0)", x.asked(63, 0), 8);
        check.due("asked(-1, 0)", x.asked(-1, 0), -1);
        check.due("asked(64, 0)", x.asked(64, 0), -1);
    }

    private static void keysOfSure() {
        check.about("KEYS are 0 .. 63, promise 10");
        BuildDisk x = keysAtTheEnds();
        check.due("sure(0)", x.sure(0), true);
        check.due("sure(63)", x.sure(63), true);
        check.due("sure(-1)", x.sure(-1), false);
        check.due("sure(64)", x.sure(64), false);
    }

    /** Starts on a disk that has these bytes at place 2 alone. */
    private static void dueRows(String what, int[] row, int want) {
        BuildDisk x = Forge.withHead(4, 1, 2, 0);
        Forge.put(x, 1024 + 64, Forge.summed(row, 2));
        check.due("start() on " + what, x.start(), want);
        check.due("about(1) with " + what, x.about(1), want * 3);
        check.due("wrong() with " + what, x.wrong(), want * 2);
    }

    private static void keysOnTheDisk() {
        check.about("promise 2: its KEY is one");
        for (int key = 0; key < 256; key++) {
            dueRows("key " + key, Forge.row(2, 1, key, 5), key < 64 ? 1 : 0);
        }
    }

    private static void usersOfLock() {
        check.about("USERS are 0 .. 7, promise 14");
        for (int user = 0; user < 8; user++) {
            BuildDisk x = Forge.running(4);
            check.due("lock(" + user + ")", x.lock(user), 1);
            check.due("about(4)", x.about(4), user);
            for (int other = 0; other < 8; other++) {
                check.due("lock(" + other + ") when " + user + " has it", x.lock(other), other == user ? 1 : 0);
                if (other != user) {
                    check.due("dead(" + other + ") when " + user + " has it", x.dead(other), 0);
                }
            }
            check.due("about(1)", x.about(1), 1);
        }
        BuildDisk x = Forge.running(4);
        for (int user : new int[] {-1, 8, 9, 63, 64, 255, 256, LEAST, MOST}) {
            check.due("lock(" + user + ")", x.lock(user), -2);
        }
        check.due("about(4)", x.about(4), -1);
    }

    private static void usersOfDead() {
        check.about("USERS are 0 .. 7, promise 15");
        for (int user = 0; user < 8; user++) {
            BuildDisk x = Forge.running(4);
            x.lock(user);
            check.due("dead(" + user + ")", x.dead(user), 1);
            check.due("about(4)", x.about(4), -1);
            x.sync();
            Forge.dueRow(check, x, 1024 + 32, Forge.row(1, 3, user, 0));
        }
        BuildDisk x = Forge.running(4);
        for (int user : new int[] {-1, 8, 9, 63, 64, 255, 256, LEAST, MOST}) {
            check.due("dead(" + user + ")", x.dead(user), -2);
        }
    }

    private static void usersOnTheDisk() {
        check.about("promise 2: (or USER) is one");
        for (int user = 0; user < 256; user++) {
            dueRows("lock of " + user, Forge.row(2, 2, user, 0), user < 8 ? 1 : 0);
            dueRows("freed of " + user, Forge.row(2, 3, user, 0), user < 8 ? 1 : 0);
        }
    }

    private static void kindsOnTheDisk() {
        check.about("promise 2: a PLACE has a ROW if its KIND is 1 .. 3");
        for (int kind = 0; kind < 256; kind++) {
            dueRows("kind " + kind, Forge.row(2, kind, 3, 0), kind >= 1 && kind <= 3 ? 1 : 0);
        }
    }

    private static void asksOnTheDisk() {
        check.about("promise 2: it ASKS at most six");
        for (int count = 0; count < 256; count++) {
            int[] row = Forge.row(2, 1, 3, 9);
            row[2] = count;
            dueRows("one that asks " + count, row, count <= 6 ? 1 : 0);
        }
    }

    private static void askedKeysOnTheDisk() {
        check.about("promise 2: all of them KEYS");
        for (int i = 0; i < 6; i++) {
            for (int other : new int[] {0, 63, 64, 127, 128, 255}) {
                int[] row = Forge.row(2, 1, 3, 9, 1, 1, 1, 1, 1, 1);
                row[3 + i] = other;
                dueRows("six with " + other + " at " + i, row, other < 64 ? 1 : 0);
                row[2] = i;
                dueRows(i + " with " + other + " behind them", row, 1);
            }
        }
    }

    private static void locksThatAskOnTheDisk() {
        check.about("promise 2: (one of LOCK or FREED none)");
        for (int count = 0; count < 256; count++) {
            int[] lock = Forge.row(2, 2, 3, 0);
            lock[2] = count;
            dueRows("a lock that asks " + count, lock, count == 0 ? 1 : 0);
            int[] freed = Forge.row(2, 3, 3, 0);
            freed[2] = count;
            dueRows("a freed that asks " + count, freed, count == 0 ? 1 : 0);
        }
    }

    private static void lastPlaceOnTheDisk() {
        check.about("promise 2: END is behind the last one that has; those ahead without one are WRONG");
        for (int place : new int[] {0, 1, 15, 16, 31, 255, 256, 302, 303}) {
            BuildDisk x = Forge.withHead(40, 1, 3, 1);
            Forge.put(x, (2 + 19) * 512 + place * 32, Forge.row(place, 1, 8, 88));
            check.due("start()", x.start(), 1);
            check.due("about(1)", x.about(1), place + 1);
            check.due("wrong()", x.wrong(), place);
            check.due("digest(8)", x.digest(8), 88);
            check.due("row(9, 9)", x.row(9, 9), place == 303 ? -4 : place + 1);
        }
    }

    private static void dueHead(long edition, long sequence, int area, boolean counts) {
        BuildDisk x = Forge.withHead(4, edition, sequence, area);
        Forge.put(x, 1024 + area % 2 * 512, Forge.row(0, 1, 4, 44));
        String head = " on the sequence " + sequence + " and the area " + area;
        check.due("start()" + head, x.start(), counts ? 1 : 0);
        check.due("about(6)" + head, x.about(6), counts ? sequence + 2 : 2);
        check.due("about(5)" + head, x.about(5), counts ? area : 0);
    }

    private static void sequenceLimit() {
        check.about("promise 2: a SEQUENCE below 2000000000");
        for (long sequence : new long[] {0, 1, 2, 3, 1999999997, 1999999998, 1999999999}) {
            dueHead(1, sequence, 1, true);
        }
        for (long sequence : new long[] {2000000000, 2000000001, 2000000002, MOST, 1L << 31, (1L << 31) + 1, 0xFFFFFFFEL, 0xFFFFFFFFL}) {
            dueHead(1, sequence, 1, false);
        }
    }

    private static void sequencePassesTheLimit() {
        check.about("promise 2: HEADS of SEQUENCES that have come to 2000000000 no longer count");
        BuildDisk x = Forge.withHead(4, 1, 1999999998, 0);
        Forge.put(x, 1024, Forge.row(0, 1, 4, 44));
        check.due("start()", x.start(), 1);
        check.due("about(6)", x.about(6), 2000000000);
        x.sync();
        x.cut(0, 0);
        check.due("start() by 1999999999", x.start(), 1);
        check.due("about(6)", x.about(6), 2000000001);
        x.compact(1000);
        check.due("about(6)", x.about(6), 2000000003);
        x.sync();
        x.cut(0, 0);
        check.due("start() without a head", x.start(), 0);
        check.due("about(6)", x.about(6), 2);
        check.due("about(5)", x.about(5), 0);
    }

    private static void areasOfHeads() {
        check.about("promise 2: and an AREA 0 or 1");
        for (int area = 0; area < 256; area++) {
            dueHead(1, 6, area, area < 2);
        }
    }

    private static void dueEdition(int goesBy, long ofHead, boolean fits) {
        BuildDisk x = Forge.withHead(4, ofHead, 6, 0);
        x.edition(goesBy);
        check.due("start() by " + goesBy + " on " + ofHead, x.start(), fits ? 0 : -1);
        check.due("about(0) by " + goesBy + " on " + ofHead, x.about(0), fits ? 1 : 0);
    }

    private static void editionOrOneLess() {
        check.about("promise 2: if its EDITION is neither the one that it goes by nor one less");
        for (int e : new int[] {1, 2, 3, 100, 127, 128, 129, 199, 200}) {
            for (int other = Math.max(0, e - 3); other <= e + 3; other++) {
                dueEdition(e, other, other == e || other == e - 1);
            }
            for (long other : new long[] {e + 256L, e + 65536L, e + (1L << 24), e + (1L << 31), 0xFFFFFFFFL, 0xFFFFFFFFL - e}) {
                dueEdition(e, other, false);
            }
        }
    }

    private static void leastEdition() {
        check.about("promise 2: of EDITION 1, one less is 0");
        dueEdition(1, 0, true);
        dueEdition(1, 1, true);
        dueEdition(1, 2, false);
        dueEdition(2, 0, false);
    }

    private static void rowsThatMayAsk() {
        check.about("promise 4: the ROW at the last PLACE");
        BuildDisk x = Forge.running(4);
        for (int i = 0; i < 16; i++) {
            x.row(i, i);
            check.due("asks(" + (i - 1) + ", 0)", x.asks(i - 1, 0), i == 0 ? -1 : -3);
            check.due("asks(" + (i + 1) + ", 0)", x.asks(i + 1, 0), -1);
            check.due("asks(" + i + ", 0)", x.asks(i, 0), 1);
        }
        for (int row : new int[] {LEAST, MOST, 16, 32, -16}) {
            check.due("asks(" + row + ", 0)", x.asks(row, 0), -1);
        }
    }

    private static void fewestSteps() {
        check.about("promise 6: the next n steps (1 ..)");
        BuildDisk x = Forge.running(4);
        check.due("compact(-1)", x.compact(-1), -2);
        check.due("compact(0)", x.compact(0), -2);
        check.due("about(7)", x.about(7), -1);
        check.due("compact(1)", x.compact(1), 1);
        check.due("about(7)", x.about(7), 0);
    }

    private static void mostSteps() {
        check.about("promise 6: the next n steps (.. 1000)");
        BuildDisk x = Forge.running(4);
        check.due("compact(1002)", x.compact(1002), -2);
        check.due("compact(1001)", x.compact(1001), -2);
        check.due("about(7)", x.about(7), -1);
        check.due("compact(1000)", x.compact(1000), 2);
        check.due("compact(999)", x.compact(999), 2);
        check.due("about(5)", x.about(5), 0);
    }

    private static void stepsUpToTheEnd() {
        check.about("promise 6: up to the one that ends it: how many were done");
        for (int n = 1; n <= 7; n++) {
            BuildDisk x = Forge.running(4);
            x.row(1, 1);
            x.row(2, 2);
            x.row(3, 3);
            check.due("compact(" + n + ")", x.compact(n), Math.min(n, 5));
            check.due("about(7)", x.about(7), n < 5 ? n - 1 : -1);
            check.due("about(5)", x.about(5), n < 5 ? 0 : 1);
        }
    }

    /** Three writes of a first start, of sectors 2, 1 and 0, and how far each has come. */
    private static void dueCut(int keep, int tear, int zeros, int first, int second) {
        BuildDisk x = new BuildDisk(4);
        for (int i = 0; i < 3; i++) {
            x.poke(i * 512 + 511, 1);
            x.poke(i * 512 + 510, 1);
        }
        x.start();
        x.cut(keep, tear);
        String call = " behind cut(" + keep + ", " + tear + ")";
        check.due("bytes that came of sector 2" + call, came(x, 2, new int[512]), zeros);
        check.due("bytes that came of sector 1" + call, came(x, 1, Forge.head(1, 1, 0)), first);
        check.due("bytes that came of sector 0" + call, came(x, 0, Forge.head(1, 2, 0)), second);
        check.due("about(0)" + call, x.about(0), 0);
    }

    /** 512 if the whole write has come, 0 if none of its last two bytes has, 511 between them. */
    private static int came(BuildDisk x, int n, int[] write) {
        boolean next = (x.sector(n, 510) & 255) == write[510];
        boolean last = (x.sector(n, 511) & 255) == write[511];
        return last ? 512 : next ? 511 : 0;
    }

    private static void keepBelowZero() {
        check.about("promise 7: below 0 counts as 0 (keep)");
        for (int keep : new int[] {0, -1, -2, LEAST}) {
            dueCut(keep, 0, 0, 0, 0);
            dueCut(keep, 511, 511, 0, 0);
            dueCut(keep, 512, 512, 0, 0);
        }
    }

    private static void keepMoreThanWait() {
        check.about("promise 7: the first keep WRITES that WAIT (all, if there are not so many)");
        dueCut(1, 0, 512, 0, 0);
        dueCut(2, 0, 512, 512, 0);
        dueCut(3, 0, 512, 512, 512);
        for (int keep : new int[] {4, 5, 64, 65, MOST}) {
            dueCut(keep, 0, 512, 512, 512);
            dueCut(keep, 7, 512, 512, 512);
            dueCut(keep, 512, 512, 512, 512);
        }
    }

    private static void tearBelowZero() {
        check.about("promise 7: below 0 counts as 0 (tear)");
        for (int tear : new int[] {0, -1, -512, LEAST}) {
            dueCut(0, tear, 0, 0, 0);
            dueCut(1, tear, 512, 0, 0);
            dueCut(2, tear, 512, 512, 0);
        }
    }

    private static void tearAbove512() {
        check.about("promise 7: the first tear bytes (all, if it is above 512)");
        for (int tear : new int[] {512, 513, 1024, MOST}) {
            dueCut(0, tear, 512, 0, 0);
            dueCut(1, tear, 512, 512, 0);
            dueCut(2, tear, 512, 512, 512);
        }
        dueCut(0, 511, 511, 0, 0);
        dueCut(0, 510, 0, 0, 0);
        dueCut(1, 511, 512, 511, 0);
        dueCut(2, 511, 512, 512, 511);
    }

    private static void tearOfEachSector() {
        check.about("promise 7: of the next one the first tear bytes");
        for (int tear = 0; tear <= 512; tear++) {
            BuildDisk x = new BuildDisk(4);
            if (tear > 0) {
                x.poke(1024 + tear - 1, 9);
            }
            if (tear < 512) {
                x.poke(1024 + tear, 9);
            }
            x.start();
            x.cut(0, tear);
            if (tear > 0) {
                check.due("last byte of a tear of " + tear, x.sector(2, tear - 1), 0);
            }
            if (tear < 512) {
                check.due("byte behind a tear of " + tear, x.sector(2, tear), 9);
            }
        }
    }

    private static void indexOfAsked() {
        check.about("promise 9: the i-th KEY (i from 0 on); NONE without");
        for (int count = 0; count <= 6; count++) {
            BuildDisk x = Forge.running(4);
            x.row(5, 5);
            for (int i = 0; i < count; i++) {
                x.asks(0, 20 + i);
            }
            x.row(6, 6);
            x.asks(1, 40);
            for (int i = -2; i < 9; i++) {
                check.due("asked(5, " + i + ") of " + count, x.asked(5, i), i >= 0 && i < count ? 20 + i : -1);
            }
            check.due("asked(5, least)", x.asked(5, LEAST), -1);
            check.due("asked(5, most)", x.asked(5, MOST), -1);
        }
    }

    private static void bytesOfSector() {
        check.about("promise 11: byte i; there is none such");
        for (int sectors : new int[] {4, 5, 40}) {
            BuildDisk x = new BuildDisk(sectors);
            for (int n : new int[] {0, 1, sectors - 1}) {
                check.dueByte(x, n, 0, 0);
                check.dueByte(x, n, 511, 0);
                for (int i : new int[] {-1, 512, 513, -512, 1024, LEAST, MOST}) {
                    check.dueNoByte(x, n, i);
                }
            }
        }
    }

    private static void sectorsOfSector() {
        check.about("promise 11: SECTOR n; there is none such");
        for (int sectors : new int[] {4, 5, 40}) {
            BuildDisk x = new BuildDisk(sectors);
            for (int n : new int[] {-1, sectors, sectors + 1, LEAST, MOST, 1 << 23, -(1 << 23)}) {
                check.dueNoByte(x, n, 0);
                check.dueNoByte(x, n, 511);
                check.dueNoByte(x, n, 512);
                check.dueNoByte(x, n, -1);
            }
        }
    }

    private static void placesOfPoke() {
        check.about("promise 12: byte place on the DISK (512 a SECTOR); - 2: there is none such");
        for (int sectors : new int[] {4, 5, 40}) {
            BuildDisk x = new BuildDisk(sectors);
            for (int place : new int[] {0, 511, 512, 513, sectors * 512 - 1}) {
                check.due("poke(" + place + ", 9)", x.poke(place, 9), 1);
                check.dueByte(x, place / 512, place % 512, 9);
            }
            for (int place : new int[] {-1, -512, sectors * 512, sectors * 512 + 1, LEAST, MOST}) {
                check.due("poke(" + place + ", 9)", x.poke(place, 9), -2);
            }
        }
    }

    private static void masksOfPoke() {
        check.about("promise 12: the mask isn't 1 .. 255");
        BuildDisk x = new BuildDisk(4);
        for (int mask = 1; mask < 256; mask++) {
            check.due("poke(" + (mask + 500) + ", " + mask + ")", x.poke(mask + 500, mask), 1);
        }
        BuildDisk y = new BuildDisk(4);
        for (int mask = 1; mask < 256; mask++) {
            y.poke(700, mask);
            check.dueByte(y, 1, 188, mask);
            if (mask < 128) {
                y.poke(700, mask);
            } else {
                y = new BuildDisk(4);
            }
        }
        for (int mask : new int[] {0, -1, -255, 256, 257, 511, 512, LEAST, MOST}) {
            check.due("poke(5, " + mask + ")", x.poke(5, mask), -2);
        }
        check.dueByte(x, 0, 5, 0);
        check.dueByte(x, 0, 501, 1);
        check.dueByte(x, 1, 243, 255);
    }

    private static void editions() {
        check.about("promise 16: e (1 .. 200): 1. - 2: it isn't so");
        for (int e = 1; e <= 200; e++) {
            BuildDisk x = new BuildDisk(4);
            check.due("edition(" + e + ")", x.edition(e), 1);
            x.start();
            x.sync();
            check.dueByte(x, 0, 3, e);
            check.dueByte(x, 1, 3, e);
        }
        BuildDisk x = new BuildDisk(4);
        for (int e : new int[] {0, -1, 201, 202, 255, 256, 257, LEAST, MOST}) {
            check.due("edition(" + e + ")", x.edition(e), -2);
        }
        x.start();
        x.sync();
        check.dueByte(x, 0, 3, 1);
    }

    private static void abouts() {
        check.about("promise 17: NONE for others");
        BuildDisk x = Forge.running(4);
        check.due("about(0)", x.about(0), 1);
        check.due("about(8)", x.about(8), 16);
        for (int what : new int[] {-1, 9, 16, 256, 264, LEAST, MOST}) {
            check.due("about(" + what + ")", x.about(what), -1);
        }
    }
}
