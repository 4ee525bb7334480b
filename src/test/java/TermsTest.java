import java.util.Arrays;

/** The sentences under "Terms", one by one, where a neighbour of the case would be answered otherwise. */
public final class TermsTest {
    private static final Check check = new Check();

    public static void main(String[] args) {
        writesComeInTheirOrder();
        placesOfASector();
        rowCoversItsPlace();
        restOfTheSectorOnTheDisk();
        restOfTheSectorThatWaits();
        headCoversItsSector();
        latestRowIsTheHighest();
        latestRowIsOfKindKey();
        lockRowIsTheHighest();
        sureWithoutAWrongPlaceBehind();
        sureWhoseAskedHasAWrongPlaceBehind();
        latestRowWithAWrongPlaceBehind();
        sureByTheKeysAhead();
        sureByItself();
        sureByEachAsked();
        sureGoesOneStepOnly();
        sureOfARowReadAtAStart();
        firstStepOfCompaction();
        placesAreTakenOneByOne();
        copiedIfLatest();
        copiedOverSectors();
        copiedIfNoWrongPlaceIsBehind();
        copiedIfTheLockRow();
        copiedAsItIsWhenTaken();
        copiedRowsInMind();
        compactionBehindWrongPlaces();
        cutEndsCompaction();
        headsGoByTheEdition();
        startGoesByTheNewEdition();
        startsForgetWhatWas();
        pokesAndTheMind();
        check.end();
    }

    private static void writesComeInTheirOrder() {
        check.about("WRITES WAIT in a QUEUE and come to the DISK in their order");
        int[] rows = {0, 1, 2, 3, 3, 3};
        int[] asked = {0, 0, 0, 0, 1, 2};
        for (int keep = 0; keep <= 6; keep++) {
            BuildDisk x = Forge.running(4);
            for (int i = 0; i < 4; i++) {
                x.row(i + 1, i);
            }
            x.asks(3, 1);
            x.asks(3, 2);
            x.cut(keep, 0);
            for (int i = 0; i < 4; i++) {
                check.dueByte(x, 2, i * 32 + 1, keep > 0 && rows[keep - 1] >= i ? i + 1 : 0);
            }
            check.dueByte(x, 2, 3 * 32 + 2, keep > 0 ? asked[keep - 1] : 0);
        }
    }

    private static void placesOfASector() {
        check.about("an AREA has 16 PLACES a SECTOR, of 32 bytes each, numbered from 0");
        for (int area = 0; area < 2; area++) {
            BuildDisk x = Forge.withHead(8, 1, 2, area);
            x.start();
            for (int i = 0; i < 48; i++) {
                x.row(i + 1, i);
            }
            x.sync();
            for (int i = 0; i < 48; i++) {
                check.dueByte(x, 2 + 3 * area + i / 16, i % 16 * 32 + 1, i + 1);
            }
        }
    }

    private static void junk(BuildDisk x, int at, int count) {
        for (int i = 0; i < count; i++) {
            x.poke(at + i, 0x5A);
        }
    }

    private static void rowCoversItsPlace() {
        check.about("A ROW at a PLACE, in bytes: all 32 of them, 0 behind the KEYS that it ASKS");
        for (int kind = 1; kind <= 3; kind++) {
            BuildDisk x = Forge.running(4);
            if (kind == 3) {
                x.lock(6);
            }
            x.sync();
            int place = x.about(1);
            junk(x, 1024 + place * 32, 64);
            if (kind == 1) {
                x.row(6, -2);
                x.asks(0, 5);
            } else if (kind == 2) {
                x.lock(6);
            } else {
                x.dead(6);
            }
            x.sync();
            int[] want = kind == 1 ? Forge.row(0, 1, 6, -2, 5) : Forge.row(place, kind, 6, 0);
            Forge.dueRow(check, x, 1024 + place * 32, want);
            int[] left = new int[32];
            Arrays.fill(left, 0x5A);
            Forge.dueRow(check, x, 1024 + place * 32 + 32, left);
        }
    }

    private static void restOfTheSectorOnTheDisk() {
        check.about("its SECTOR, with it, WAITS (all else of it as it is): on the DISK when nothing WAITS");
        BuildDisk x = Forge.running(6);
        x.row(1, 1);
        x.sync();
        x.poke(1024 + 5, 3);
        x.poke(1024 + 511, 4);
        x.poke(1536, 5);
        x.row(2, 2);
        x.poke(1024 + 5, 8);
        x.sync();
        check.dueByte(x, 2, 5, 3);
        check.dueByte(x, 2, 511, 4);
        check.dueByte(x, 3, 0, 5);
    }

    private static void restOfTheSectorThatWaits() {
        check.about("(all else of it as it is when all that WAITS has come): by the last WRITE of this SECTOR");
        BuildDisk x = Forge.running(6);
        for (int i = 0; i < 17; i++) {
            x.row(i + 1, i);
        }
        x.poke(1024 + 3, 9);
        x.poke(1536 + 100, 9);
        x.row(40, 40);
        x.cut(18, 0);
        check.dueByte(x, 2, 3, 0);
        check.dueByte(x, 3, 1, 17);
        check.dueByte(x, 3, 33, 40);
        check.dueByte(x, 3, 100, 0);
    }

    private static void headCoversItsSector() {
        check.about("A HEAD: an EDITION, its SEQUENCE, an AREA, bytes 0, the SUM: all 512 bytes");
        for (int n = 0; n < 2; n++) {
            int[] head = Forge.head(1, 2 - n, 0);
            for (int from = 0; from < 512; from += 128) {
                BuildDisk x = new BuildDisk(4);
                junk(x, n * 512 + from, 128);
                x.start();
                x.sync();
                for (int i = from; i < from + 128; i++) {
                    check.dueByte(x, n, i, head[i]);
                }
            }
        }
    }

    private static void latestRowIsTheHighest() {
        check.about("THE LATEST ROW of a KEY is that of KIND KEY at the highest PLACE");
        BuildDisk x = Forge.withHead(4, 1, 2, 0);
        Forge.put(x, 1024, Forge.row(0, 1, 5, 100, 1));
        Forge.put(x, 1024 + 64, Forge.row(2, 1, 5, 50, 2));
        Forge.put(x, 1024 + 96, Forge.row(3, 1, 6, 60));
        check.due("start()", x.start(), 3);
        check.due("digest(5)", x.digest(5), 50);
        check.due("asked(5, 0)", x.asked(5, 0), 2);
        x.row(5, 7);
        check.due("digest(5)", x.digest(5), 7);
        check.due("asked(5, 0)", x.asked(5, 0), -1);
    }

    private static void latestRowIsOfKindKey() {
        check.about("THE LATEST ROW of a KEY is that of KIND KEY: a USER's number is none");
        BuildDisk x = Forge.running(4);
        x.row(5, 50);
        x.asks(0, 9);
        x.lock(5);
        x.dead(5);
        check.due("digest(5)", x.digest(5), 50);
        check.due("asked(5, 0)", x.asked(5, 0), 9);
        check.due("about(4)", x.about(4), -1);
        x.lock(6);
        x.row(6, 60);
        check.due("about(4)", x.about(4), 6);
    }

    private static void lockRowIsTheHighest() {
        check.about("THE LOCK ROW the highest of LOCK and FREED");
        BuildDisk x = Forge.withHead(4, 1, 2, 0);
        Forge.put(x, 1024, Forge.row(0, 3, 2, 0));
        Forge.put(x, 1024 + 32, Forge.row(1, 2, 2, 0));
        Forge.put(x, 1024 + 64, Forge.row(2, 2, 4, 0));
        Forge.put(x, 1024 + 96, Forge.row(3, 1, 2, 0));
        check.due("start()", x.start(), 4);
        check.due("about(4)", x.about(4), 4);
        check.due("dead(2)", x.dead(2), 0);
        check.due("dead(4)", x.dead(4), 1);
        check.due("about(4)", x.about(4), -1);
    }

    /** Rows of keys 1, 2, 3 at places 0, 1, 2, of which one is wrong at the start. */
    private static BuildDisk wrongAt(int place) {
        BuildDisk x = Forge.running(4);
        x.row(1, 1);
        x.row(2, 2);
        x.row(3, 3);
        x.sync();
        x.poke(1024 + place * 32 + 9, 1);
        x.cut(0, 0);
        x.start();
        return x;
    }

    private static void sureWithoutAWrongPlaceBehind() {
        check.about("SURE: no WRONG PLACE is behind that");
        BuildDisk x = wrongAt(1);
        check.due("sure(1) right ahead of it", x.sure(1), false);
        check.due("sure(2) that was there", x.sure(2), false);
        check.due("sure(3) right behind it", x.sure(3), true);
        BuildDisk y = wrongAt(0);
        check.due("sure(2)", y.sure(2), true);
        check.due("sure(3)", y.sure(3), true);
        BuildDisk z = wrongAt(2);
        check.due("wrong() behind the last row", z.wrong(), 0);
        check.due("sure(1)", z.sure(1), true);
        check.due("sure(2)", z.sure(2), true);
    }

    private static void sureWhoseAskedHasAWrongPlaceBehind() {
        check.about("SURE: no WRONG PLACE is behind its LATEST ROW: behind that of a KEY that it ASKS there may be one");
        BuildDisk x = wrongAt(1);
        x.row(4, 4);
        x.asks(3, 1);
        check.due("sure(1)", x.sure(1), false);
        check.due("sure(4)", x.sure(4), true);
        x.asks(3, 2);
        check.due("sure(4) asks the one that was there", x.sure(4), false);
    }

    private static void latestRowWithAWrongPlaceBehind() {
        check.about("THE LATEST ROW is that at the highest PLACE, also with a WRONG PLACE behind it");
        BuildDisk x = Forge.withHead(4, 1, 2, 0);
        Forge.put(x, 1024, Forge.row(0, 1, 5, 50, 9, 8));
        Forge.put(x, 1024 + 32, Forge.row(1, 2, 6, 0));
        Forge.put(x, 1024 + 96, Forge.row(3, 1, 4, 4));
        check.due("start()", x.start(), 3);
        check.due("digest(5)", x.digest(5), 50);
        check.due("asked(5, 0)", x.asked(5, 0), 9);
        check.due("asked(5, 1)", x.asked(5, 1), 8);
        check.due("sure(5)", x.sure(5), false);
        check.due("about(4)", x.about(4), 6);
        check.due("lock(6)", x.lock(6), 1);
        check.due("asks(0, 1)", x.asks(0, 1), -3);
    }

    private static void sureByTheKeysAhead() {
        check.about("SURE: each KEY that it ASKS has its LATEST ROW ahead of it");
        BuildDisk x = Forge.running(4);
        x.row(1, 1);
        x.row(2, 2);
        x.asks(1, 1);
        check.due("sure(2)", x.sure(2), true);
        x.row(1, 3);
        check.due("sure(2) when it came anew behind", x.sure(2), false);
        x.row(2, 4);
        x.asks(3, 1);
        check.due("sure(2) anew", x.sure(2), true);
    }

    private static void sureByItself() {
        check.about("SURE: a KEY that ASKS itself has no LATEST ROW ahead of it");
        BuildDisk x = Forge.running(4);
        x.row(1, 1);
        x.row(1, 2);
        check.due("sure(1)", x.sure(1), true);
        x.asks(1, 1);
        check.due("sure(1) asks itself", x.sure(1), false);
    }

    private static void sureByEachAsked() {
        check.about("SURE: each KEY that it ASKS, the first to the sixth");
        for (int i = 0; i < 6; i++) {
            BuildDisk x = Forge.running(4);
            x.row(1, 1);
            x.row(2, 2);
            for (int j = 0; j < 6; j++) {
                check.due("sure(2)", x.sure(2), j <= i);
                x.asks(1, i == j ? 9 : 1);
            }
            check.due("sure(2) with one without a row at " + i, x.sure(2), false);
        }
        for (int key = 0; key < 64; key++) {
            BuildDisk x = Forge.running(4);
            x.row(key, 1);
            x.row((key + 1) % 64, 2);
            x.asks(1, key);
            check.due("sure(next) asks " + key, x.sure((key + 1) % 64), true);
            x.row((key + 1) % 64, 3);
            x.asks(2, (key + 2) % 64);
            check.due("sure(next) asks one without a row", x.sure((key + 1) % 64), false);
        }
    }

    private static void sureGoesOneStepOnly() {
        check.about("SURE: a KEY that it ASKS need not be SURE itself");
        BuildDisk x = Forge.running(4);
        x.row(1, 1);
        x.asks(0, 9);
        x.row(2, 2);
        x.asks(1, 1);
        check.due("sure(1)", x.sure(1), false);
        check.due("sure(2)", x.sure(2), true);
    }

    private static void sureOfARowReadAtAStart() {
        check.about("SURE, of ROWS that were there at a start");
        BuildDisk x = Forge.running(4);
        x.row(1, 1);
        x.row(2, 2);
        x.asks(1, 1);
        x.row(3, 3);
        x.asks(2, 9);
        x.cut(64, 0);
        x.start();
        check.due("sure(1)", x.sure(1), true);
        check.due("sure(2)", x.sure(2), true);
        check.due("sure(3)", x.sure(3), false);
        check.due("asked(2, 0)", x.asked(2, 0), 1);
        check.due("asked(3, 0)", x.asked(3, 0), 9);
        check.due("asked(1, 0)", x.asked(1, 0), -1);
    }

    private static void firstStepOfCompaction() {
        check.about("The first one: all SECTORS of the other AREA WAIT; none is COPIED");
        for (int sectors = 4; sectors <= 40; sectors += 4) {
            BuildDisk x = Forge.running(sectors);
            x.row(1, 1);
            x.sync();
            check.due("compact(1)", x.compact(1), 1);
            check.due("about(2)", x.about(2), (sectors - 2) / 2);
            check.due("about(7)", x.about(7), 0);
            check.due("about(5)", x.about(5), 0);
            check.due("about(1)", x.about(1), 1);
        }
    }

    private static void placesAreTakenOneByOne() {
        check.about("PLACE by PLACE, from 0 on: the PLACE is TAKEN");
        BuildDisk x = Forge.running(4);
        for (int i = 0; i < 5; i++) {
            x.row(i % 2, i);
        }
        x.compact(1);
        x.sync();
        for (int i = 0; i < 5; i++) {
            check.due("about(7)", x.about(7), i);
            check.due("compact(1)", x.compact(1), 1);
            check.due("about(2)", x.about(2), Math.max(0, i - 2));
        }
        check.due("about(7)", x.about(7), 5);
        check.due("about(5)", x.about(5), 0);
        check.due("compact(1)", x.compact(1), 1);
        check.due("about(7)", x.about(7), -1);
        check.due("about(5)", x.about(5), 1);
        check.due("about(1)", x.about(1), 2);
    }

    private static void copiedIfLatest() {
        check.about("if it has the LATEST ROW of its KEY that is COPIED: to the next PLACE of the other AREA");
        BuildDisk x = Forge.running(4);
        x.row(1, 10);
        x.row(2, 20);
        x.row(1, 11);
        x.row(3, 30);
        x.asks(3, 2);
        x.row(2, 21);
        x.compact(1000);
        check.due("about(1)", x.about(1), 3);
        x.sync();
        Forge.dueRow(check, x, 1536, Forge.row(0, 1, 1, 11));
        Forge.dueRow(check, x, 1536 + 32, Forge.row(1, 1, 3, 30, 2));
        Forge.dueRow(check, x, 1536 + 64, Forge.row(2, 1, 2, 21));
        Forge.dueRow(check, x, 1536 + 96, new int[32]);
    }

    private static void copiedOverSectors() {
        check.about("COPIED to the next PLACE of the other AREA (from 0 on), whose SECTOR WAITS");
        BuildDisk x = Forge.running(8);
        for (int i = 0; i < 20; i++) {
            x.row(60, i);
        }
        for (int i = 0; i < 18; i++) {
            x.row(i, 100 + i);
        }
        x.compact(1000);
        check.due("about(1)", x.about(1), 19);
        x.sync();
        Forge.dueRow(check, x, 5 * 512, Forge.row(0, 1, 60, 19));
        for (int i : new int[] {0, 1, 14, 15, 16, 17}) {
            Forge.dueRow(check, x, 5 * 512 + (i + 1) * 32, Forge.row(i + 1, 1, i, 100 + i));
        }
        Forge.dueRow(check, x, 5 * 512 + 19 * 32, new int[32]);
    }

    private static void copiedIfNoWrongPlaceIsBehind() {
        check.about("with no WRONG PLACE behind it");
        BuildDisk x = wrongAt(1);
        check.due("compact(1000)", x.compact(1000), 5);
        check.due("about(1)", x.about(1), 1);
        check.due("digest(1)", x.digest(1), 0);
        check.due("digest(3)", x.digest(3), 3);
        BuildDisk y = wrongAt(0);
        y.compact(1000);
        check.due("about(1)", y.about(1), 2);
    }

    private static void copiedIfTheLockRow() {
        check.about("or the LOCK ROW, also with a WRONG PLACE behind it");
        for (int kind = 2; kind <= 3; kind++) {
            BuildDisk x = Forge.withHead(4, 1, 2, 0);
            Forge.put(x, 1024, Forge.row(0, 2, 1, 0));
            Forge.put(x, 1024 + 32, Forge.row(1, kind, 6, 0));
            Forge.put(x, 1024 + 96, Forge.row(3, 1, 4, 4));
            check.due("start()", x.start(), 3);
            check.due("wrong()", x.wrong(), 1);
            check.due("compact(1000)", x.compact(1000), 6);
            check.due("about(1)", x.about(1), 2);
            check.due("about(4)", x.about(4), kind == 2 ? 6 : -1);
            x.sync();
            Forge.dueRow(check, x, 1536, Forge.row(0, kind, 6, 0));
            Forge.dueRow(check, x, 1536 + 32, Forge.row(1, 1, 4, 4));
        }
    }

    private static void copiedAsItIsWhenTaken() {
        check.about("COMPACTION beside all else: a PLACE is looked at when it is TAKEN");
        BuildDisk x = Forge.running(4);
        x.row(1, 10);
        x.row(2, 20);
        x.compact(2);
        x.row(1, 11);
        x.row(2, 21);
        check.due("compact(1000)", x.compact(1000), 4);
        check.due("about(1) with 1 twice", x.about(1), 3);
        check.due("digest(1)", x.digest(1), 11);
        check.due("digest(2)", x.digest(2), 21);
        x.sync();
        Forge.dueRow(check, x, 1536, Forge.row(0, 1, 1, 10));
        Forge.dueRow(check, x, 1536 + 32, Forge.row(1, 1, 1, 11));
        Forge.dueRow(check, x, 1536 + 64, Forge.row(2, 1, 2, 21));
    }

    private static void copiedRowsInMind() {
        check.about("it goes by that from now on: each ROW is at its new PLACE");
        BuildDisk x = Forge.running(4);
        x.row(9, 1);
        x.asks(0, 1);
        x.row(9, 2);
        x.row(5, 50);
        for (int i = 0; i < 6; i++) {
            x.asks(2, 30 + i);
        }
        x.row(6, 60);
        x.asks(3, 5);
        x.lock(7);
        x.row(9, 3);
        check.due("compact(1000)", x.compact(1000), 8);
        check.due("about(1)", x.about(1), 4);
        check.due("digest(5)", x.digest(5), 50);
        check.due("digest(6)", x.digest(6), 60);
        check.due("digest(9)", x.digest(9), 3);
        for (int i = 0; i < 6; i++) {
            check.due("asked(5, " + i + ")", x.asked(5, i), 30 + i);
        }
        check.due("asked(6, 0)", x.asked(6, 0), 5);
        check.due("asked(6, 1)", x.asked(6, 1), -1);
        check.due("asked(9, 0)", x.asked(9, 0), -1);
        check.due("sure(6)", x.sure(6), true);
        check.due("sure(9)", x.sure(9), true);
        check.due("about(4)", x.about(4), 7);
        check.due("asks(2, 1) of the lock", x.asks(2, 1), -1);
        check.due("asks(3, 1) of a copy", x.asks(3, 1), -3);
        check.due("asks(4, 1)", x.asks(4, 1), -1);
    }

    private static void compactionBehindWrongPlaces() {
        check.about("(END: how many were COPIED; none is WRONG)");
        BuildDisk x = wrongAt(1);
        x.compact(1000);
        check.due("sure(3)", x.sure(3), true);
        x.row(1, 11);
        check.due("sure(1)", x.sure(1), true);
        check.due("compact(1000)", x.compact(1000), 4);
        check.due("about(1)", x.about(1), 2);
        check.due("digest(1)", x.digest(1), 11);
        check.due("wrong() of the latest start", x.wrong(), 1);
        BuildDisk y = wrongAt(0);
        y.compact(1000);
        check.due("sure(2) behind compaction", y.sure(2), true);
        check.due("sure(3) behind compaction", y.sure(3), true);
        check.due("compact(1000)", y.compact(1000), 4);
        check.due("about(1)", y.about(1), 2);
    }

    private static void cutEndsCompaction() {
        check.about("promise 7: no COMPACTION under way: the next one begins anew");
        BuildDisk x = Forge.running(4);
        x.row(1, 10);
        x.row(2, 20);
        x.compact(3);
        x.cut(64, 0);
        check.due("about(7)", x.about(7), -1);
        check.due("start()", x.start(), 2);
        check.due("about(7)", x.about(7), -1);
        check.due("compact(1000)", x.compact(1000), 4);
        check.due("about(1)", x.about(1), 2);
        x.sync();
        Forge.dueRow(check, x, 1536 + 32, Forge.row(1, 1, 2, 20));
        check.dueByte(x, 3, 64, 0);
    }

    private static void headsGoByTheEdition() {
        check.about("the EDITION that it goes by; promise 16: from the next start on");
        BuildDisk x = Forge.running(4);
        x.edition(2);
        x.compact(1000);
        x.sync();
        check.dueByte(x, 0, 3, 1);
        check.dueByte(x, 1, 3, 1);
        check.due("start() when running", x.start(), -3);
        x.compact(1000);
        x.sync();
        check.dueByte(x, 0, 3, 1);
        check.dueByte(x, 1, 3, 1);
    }

    private static void startGoesByTheNewEdition() {
        check.about("promise 16: from the next start on; promise 2: the HEADS are CHANGED in any case");
        BuildDisk x = Forge.running(4);
        x.row(1, 10);
        x.sync();
        x.edition(2);
        x.cut(0, 0);
        check.due("start()", x.start(), 1);
        x.sync();
        check.dueByte(x, 0, 3, 2);
        check.dueByte(x, 1, 3, 2);
        x.cut(0, 0);
        check.due("start() by the same", x.start(), 1);
        x.edition(1);
        x.cut(0, 0);
        check.due("start() by one less", x.start(), -1);
    }

    private static void startsForgetWhatWas() {
        check.about("promise 2: it goes by its AREA: what was in mind and did not come is gone");
        BuildDisk x = Forge.running(4);
        x.row(1, 10);
        x.asks(0, 2);
        x.sync();
        x.row(1, 11);
        for (int i = 0; i < 6; i++) {
            x.asks(1, 40 + i);
        }
        x.row(3, 30);
        x.lock(5);
        x.cut(0, 0);
        check.due("start()", x.start(), 1);
        check.due("about(1)", x.about(1), 1);
        check.due("digest(1)", x.digest(1), 10);
        check.due("asked(1, 0)", x.asked(1, 0), 2);
        check.due("digest(3)", x.digest(3), 0);
        check.due("about(4)", x.about(4), -1);
        check.due("row(4, 40)", x.row(4, 40), 1);
        check.due("asked(4, 0)", x.asked(4, 0), -1);
        check.due("asks(1, 9)", x.asks(1, 9), 1);
        x.sync();
        Forge.dueRow(check, x, 1024 + 32, Forge.row(1, 1, 4, 40, 9));
        x.poke(0, 1);
        x.poke(512, 1);
        x.cut(0, 0);
        check.due("start() without a head", x.start(), 0);
        check.due("about(1)", x.about(1), 0);
        check.due("digest(4)", x.digest(4), 0);
        check.due("row(5, 50)", x.row(5, 50), 0);
    }

    private static void pokesAndTheMind() {
        check.about("promise 12: (What it has in mind stays.)");
        BuildDisk x = Forge.running(4);
        x.row(1, 10);
        x.asks(0, 2);
        x.lock(5);
        x.sync();
        junk(x, 1024, 64);
        junk(x, 0, 12);
        junk(x, 512, 12);
        check.due("digest(1)", x.digest(1), 10);
        check.due("asked(1, 0)", x.asked(1, 0), 2);
        check.due("about(4)", x.about(4), 5);
        check.due("about(6)", x.about(6), 2);
        check.due("about(5)", x.about(5), 0);
        check.due("about(1)", x.about(1), 2);
        check.due("wrong()", x.wrong(), 0);
        x.cut(0, 0);
        check.due("start()", x.start(), 0);
        check.due("digest(1)", x.digest(1), 0);
    }
}
