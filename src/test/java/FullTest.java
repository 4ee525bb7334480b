/** Full: no place left, six keys asked, 64 writes that wait. */
public final class FullTest {
    private static final Check check = new Check();

    public static void main(String[] args) {
        lastPlaceOfEachSize();
        rowWithoutPlace();
        unkeptUntilOneIsKept();
        unkeptUntilTheNextStart();
        unkeptThroughCompaction();
        unkeptKeysAreSure();
        keysThatAskUnkeptOnes();
        everyKeyUnkept();
        lastRowOfAFullAreaAsks();
        lockOfAFullArea();
        deadOfAFullArea();
        lockTakesTheLastPlace();
        deadTakesTheLastPlace();
        wrongPlacesFillToo();
        compactionMakesPlaces();
        compactionOfAllLatestRows();
        fullWhileCompactionIsUnderWay();
        askedOverAWholeArea();
        sixKeysAsked();
        sixTimesOneKey();
        sixReadAtAStart();
        rowsRunOver();
        asksRunOver();
        lockRunsOver();
        deadRunsOver();
        firstStepRunsOver();
        copyRunsOver();
        firstHeadRunsOver();
        secondHeadRunsOver();
        refusedCallsDoNotRunOver();
        runOverTwice();
        runOverIsNoSync();
        check.end();
    }

    private static void lastPlaceOfEachSize() {
        check.about("promise 3: its PLACE; - 4: there is no PLACE");
        for (int sectors = 4; sectors <= 40; sectors++) {
            int places = (sectors - 2) / 2 * 16;
            BuildDisk x = new BuildDisk(sectors);
            x.start();
            for (int i = 0; i < places; i++) {
                check.due("row", x.row(i % 64, i), i);
            }
            check.due("about(1)", x.about(1), places);
            check.due("row of " + sectors + " sectors", x.row(0, 1), -4);
            check.due("about(1)", x.about(1), places);
            x.sync();
            int last = places - 1;
            Forge.dueRow(check, x, 1024 + last * 32, Forge.row(last, 1, last % 64, last));
        }
    }

    private static BuildDisk full() {
        BuildDisk x = Forge.running(4);
        x.row(1, 10);
        x.row(2, 20);
        x.asks(1, 1);
        Forge.fill(x, 3);
        return x;
    }

    private static void rowWithoutPlace() {
        check.about("promise 3: (the KEY is UNKEPT, with this DIGEST)");
        BuildDisk x = full();
        for (long digest : new long[] {5, 0, -1, Long.MIN_VALUE, Long.MAX_VALUE}) {
            check.due("row(2, digest)", x.row(2, digest), -4);
            check.due("about(3)", x.about(3), 1);
            check.due("digest(2)", x.digest(2), digest);
            check.due("asked(2, 0)", x.asked(2, 0), -1);
            check.due("sure(2)", x.sure(2), true);
        }
        check.due("row(40, 0) without a row", x.row(40, 0), -4);
        check.due("about(3)", x.about(3), 2);
        check.due("digest(40)", x.digest(40), 0);
        check.due("sure(40)", x.sure(40), true);
        check.due("digest(1)", x.digest(1), 10);
    }

    private static void unkeptUntilOneIsKept() {
        check.about("A KEY is UNKEPT until one is KEPT");
        BuildDisk x = full();
        x.row(2, 21);
        x.row(5, 50);
        x.compact(1000);
        check.due("row(1, 11) of another", x.row(1, 11), 3);
        check.due("about(3)", x.about(3), 2);
        check.due("digest(2)", x.digest(2), 21);
        check.due("row(2, 22)", x.row(2, 22), 4);
        check.due("about(3)", x.about(3), 1);
        check.due("digest(2)", x.digest(2), 22);
        check.due("asks(4, 9)", x.asks(4, 9), 1);
        check.due("asked(2, 0)", x.asked(2, 0), 9);
        check.due("sure(2)", x.sure(2), false);
        check.due("sure(5)", x.sure(5), true);
        check.due("lock(5) of a user of this number", x.lock(5), 1);
        check.due("about(3)", x.about(3), 1);
    }

    private static void unkeptUntilTheNextStart() {
        check.about("A KEY is UNKEPT until the next start; promise 7: no KEY is UNKEPT");
        BuildDisk x = full();
        x.row(2, 21);
        x.row(5, 50);
        x.sync();
        check.due("about(3) behind sync", x.about(3), 2);
        x.start();
        check.due("about(3) behind a start that is none", x.about(3), 2);
        x.cut(0, 0);
        check.due("start()", x.start(), 16);
        check.due("about(3)", x.about(3), 0);
        check.due("digest(2)", x.digest(2), 20);
        check.due("asked(2, 0)", x.asked(2, 0), 1);
        check.due("digest(5)", x.digest(5), 0);
        check.due("sure(5)", x.sure(5), false);
    }

    private static void unkeptThroughCompaction() {
        check.about("A KEY is UNKEPT until one is KEPT: a ROW that is COPIED is not KEPT");
        BuildDisk x = full();
        x.row(2, 21);
        x.row(5, 50);
        check.due("compact(1000)", x.compact(1000), 18);
        check.due("about(1)", x.about(1), 3);
        check.due("about(3)", x.about(3), 2);
        check.due("digest(2)", x.digest(2), 21);
        check.due("digest(5)", x.digest(5), 50);
        x.cut(64, 0);
        check.due("start()", x.start(), 3);
        check.due("digest(2)", x.digest(2), 20);
    }

    private static void unkeptKeysAreSure() {
        check.about("A KEY is SURE if it is UNKEPT");
        BuildDisk x = Forge.running(4);
        x.row(1, 1);
        x.row(2, 2);
        x.asks(1, 9);
        Forge.fill(x, 3);
        x.cut(64, 0);
        x.poke(1024 + 15 * 32 - 1, 1);
        x.start();
        check.due("wrong()", x.wrong(), 1);
        check.due("sure(1) with a wrong place behind", x.sure(1), false);
        check.due("sure(2) that asks one without a row", x.sure(2), false);
        x.row(1, 5);
        x.row(2, 6);
        check.due("sure(1)", x.sure(1), true);
        check.due("sure(2)", x.sure(2), true);
    }

    private static void keysThatAskUnkeptOnes() {
        check.about("SURE: each KEY that it ASKS isn't UNKEPT");
        BuildDisk x = full();
        check.due("sure(2)", x.sure(2), true);
        x.row(9, 1);
        check.due("sure(2) when another is unkept", x.sure(2), true);
        x.row(1, 1);
        check.due("sure(2) when that which it asks is unkept", x.sure(2), false);
    }

    private static void everyKeyUnkept() {
        check.about("promise 17: how many KEYS are UNKEPT");
        BuildDisk x = full();
        for (int key = 0; key < 64; key++) {
            check.due("row(" + key + ", 1)", x.row(key, key + 100), -4);
            check.due("about(3)", x.about(3), key + 1);
            check.due("digest(" + key + ")", x.digest(key), key + 100);
        }
        check.due("row(63, 1)", x.row(63, 1), -4);
        check.due("about(3)", x.about(3), 64);
        check.due("about(1)", x.about(1), 16);
        x.cut(64, 0);
        check.due("start()", x.start(), 16);
        check.due("about(3)", x.about(3), 0);
        for (int key = 0; key < 64; key++) {
            check.due("digest(" + key + ")", x.digest(key), key == 3 ? 15 : key == 1 ? 10 : key == 2 ? 20 : 0);
        }
    }

    private static void lastRowOfAFullAreaAsks() {
        check.about("promise 4: the ROW at the last PLACE ASKS, also when there is no PLACE behind it");
        BuildDisk x = full();
        check.due("asks(15, 1)", x.asks(15, 1), 1);
        check.due("asks(15, 2)", x.asks(15, 2), 2);
        x.row(3, 99);
        check.due("asks(15, 4) of an unkept key", x.asks(15, 4), 3);
        check.due("asks(16, 1)", x.asks(16, 1), -1);
        x.sync();
        Forge.dueRow(check, x, 1024 + 480, Forge.row(15, 1, 3, 15, 1, 2, 4));
    }

    private static void lockOfAFullArea() {
        check.about("promise 14: - 4: there is no PLACE");
        BuildDisk x = full();
        for (int user = 0; user < 8; user++) {
            check.due("lock(" + user + ")", x.lock(user), -4);
        }
        check.due("about(4)", x.about(4), -1);
        check.due("about(3)", x.about(3), 0);
        check.due("about(2)", x.about(2), 17);
        x.compact(1000);
        check.due("lock(6)", x.lock(6), 1);
    }

    private static void deadOfAFullArea() {
        check.about("promise 15: - 4: there is no PLACE, and the USER has the LOCK still");
        BuildDisk x = Forge.running(4);
        x.lock(6);
        Forge.fill(x, 3);
        check.due("dead(6)", x.dead(6), -4);
        check.due("about(4)", x.about(4), 6);
        check.due("lock(6)", x.lock(6), 1);
        check.due("lock(5)", x.lock(5), 0);
        check.due("dead(5)", x.dead(5), 0);
        check.due("about(3)", x.about(3), 0);
        x.compact(1000);
        check.due("dead(6)", x.dead(6), 1);
        check.due("about(4)", x.about(4), -1);
    }

    private static void lockTakesTheLastPlace() {
        check.about("promise 14: its ROW LOCK is KEPT at the last PLACE");
        BuildDisk x = Forge.running(4);
        for (int i = 0; i < 15; i++) {
            x.row(i, i);
        }
        check.due("lock(6)", x.lock(6), 1);
        check.due("about(1)", x.about(1), 16);
        check.due("dead(6)", x.dead(6), -4);
        check.due("row(1, 1)", x.row(1, 1), -4);
        x.sync();
        Forge.dueRow(check, x, 1024 + 480, Forge.row(15, 2, 6, 0));
    }

    private static void deadTakesTheLastPlace() {
        check.about("promise 15: its ROW FREED is KEPT at the last PLACE");
        BuildDisk x = Forge.running(4);
        x.lock(6);
        for (int i = 0; i < 14; i++) {
            x.row(i, i);
        }
        check.due("dead(6)", x.dead(6), 1);
        check.due("about(1)", x.about(1), 16);
        check.due("lock(6)", x.lock(6), -4);
        x.sync();
        Forge.dueRow(check, x, 1024 + 480, Forge.row(15, 3, 6, 0));
    }

    private static void wrongPlacesFillToo() {
        check.about("the first END PLACES have ROWS, or are WRONG: no PLACE is left behind a ROW at the last one");
        BuildDisk x = Forge.withHead(4, 1, 2, 0);
        Forge.put(x, 1024 + 480, Forge.row(15, 1, 8, 88));
        check.due("start()", x.start(), 1);
        check.due("wrong()", x.wrong(), 15);
        check.due("row(9, 99)", x.row(9, 99), -4);
        check.due("lock(1)", x.lock(1), -4);
        check.due("digest(9)", x.digest(9), 99);
        check.due("compact(1000)", x.compact(1000), 18);
        check.due("about(1)", x.about(1), 1);
        check.due("row(9, 99)", x.row(9, 99), 1);
    }

    private static void compactionMakesPlaces() {
        check.about("END: how many were COPIED");
        BuildDisk x = full();
        check.due("row(4, 4)", x.row(4, 4), -4);
        check.due("compact(17)", x.compact(17), 17);
        check.due("row(4, 4) ahead of the step that ends it", x.row(4, 4), -4);
        check.due("compact(1)", x.compact(1), 1);
        check.due("row(4, 4)", x.row(4, 4), 3);
    }

    private static void compactionOfAllLatestRows() {
        check.about("COPIED to the next PLACE of the other AREA, up to the last one");
        BuildDisk x = Forge.running(4);
        for (int i = 0; i < 16; i++) {
            x.row(i, i);
        }
        check.due("compact(1000)", x.compact(1000), 18);
        check.due("about(1)", x.about(1), 16);
        check.due("row(1, 1)", x.row(1, 1), -4);
        x.sync();
        for (int i = 0; i < 14; i++) {
            Forge.dueRow(check, x, 1536 + i * 32, Forge.row(i, 1, i, i));
        }
        x.compact(1000);
        check.due("about(1)", x.about(1), 16);
        check.due("digest(15)", x.digest(15), 15);
    }

    private static void fullWhileCompactionIsUnderWay() {
        check.about("COMPACTION beside all else: PLACES are those of the AREA that it goes by");
        BuildDisk x = Forge.running(4);
        for (int i = 0; i < 15; i++) {
            x.row(7, i);
        }
        x.compact(10);
        check.due("row(8, 8)", x.row(8, 8), 15);
        check.due("row(8, 9)", x.row(8, 9), -4);
        check.due("about(3)", x.about(3), 1);
        check.due("digest(8)", x.digest(8), 9);
        check.due("sure(8)", x.sure(8), true);
        check.due("compact(1000)", x.compact(1000), 8);
        check.due("about(1)", x.about(1), 2);
        check.due("digest(8)", x.digest(8), 9);
        check.due("row(8, 10)", x.row(8, 10), 2);
        check.due("digest(8)", x.digest(8), 10);
    }

    private static void askedOverAWholeArea() {
        check.about("SURE: each KEY that it ASKS has its LATEST ROW ahead of it, be it the first of a full AREA and it the last");
        BuildDisk x = Forge.running(40);
        x.row(1, 10);
        for (int i = 1; i < 303; i++) {
            x.row(3, i);
        }
        check.due("row(2, 20)", x.row(2, 20), 303);
        check.due("asks(303, 1)", x.asks(303, 1), 1);
        check.due("asks(303, 3)", x.asks(303, 3), 2);
        check.due("sure(2)", x.sure(2), true);
        check.due("compact(1000)", x.compact(1000), 306);
        check.due("about(1)", x.about(1), 3);
        check.due("sure(2) copied", x.sure(2), true);
        x.cut(64, 0);
        check.due("start()", x.start(), 3);
        check.due("sure(2) started", x.sure(2), true);
    }

    private static void sixKeysAsked() {
        check.about("promise 4: how many; - 4: it ASKS six");
        BuildDisk x = Forge.running(4);
        x.row(1, 1);
        for (int i = 0; i < 6; i++) {
            check.due("asks(0, key)", x.asks(0, 10 + i), i + 1);
            check.due("about(2)", x.about(2), i + 2);
        }
        for (int i = 0; i < 3; i++) {
            check.due("asks(0, 20)", x.asks(0, 20), -4);
            check.due("about(2)", x.about(2), 7);
        }
        check.due("asked(1, 5)", x.asked(1, 5), 15);
        check.due("asked(1, 6)", x.asked(1, 6), -1);
        check.due("row(2, 2)", x.row(2, 2), 1);
        check.due("asks(1, 20) of the next", x.asks(1, 20), 1);
        x.sync();
        Forge.dueRow(check, x, 1024, Forge.row(0, 1, 1, 1, 10, 11, 12, 13, 14, 15));
        Forge.dueRow(check, x, 1024 + 32, Forge.row(1, 1, 2, 2, 20));
    }

    private static void sixTimesOneKey() {
        check.about("promise 4: one KEY more (again, too)");
        BuildDisk x = Forge.running(4);
        x.row(1, 1);
        x.row(2, 2);
        for (int i = 0; i < 6; i++) {
            check.due("asks(1, 1)", x.asks(1, 1), i + 1);
        }
        check.due("asks(1, 1)", x.asks(1, 1), -4);
        check.due("sure(2)", x.sure(2), true);
        x.sync();
        Forge.dueRow(check, x, 1024 + 32, Forge.row(1, 1, 2, 2, 1, 1, 1, 1, 1, 1));
    }

    private static void sixReadAtAStart() {
        check.about("promise 2: a ROW that ASKS six");
        BuildDisk x = Forge.withHead(4, 1, 2, 0);
        Forge.put(x, 1024, Forge.row(0, 1, 3, 9, 5, 6, 7, 8, 9, 10));
        check.due("start()", x.start(), 1);
        for (int i = 0; i < 6; i++) {
            check.due("asked(3, " + i + ")", x.asked(3, i), 5 + i);
        }
        check.due("asked(3, 6)", x.asked(3, 6), -1);
        x.compact(1000);
        check.due("asked(3, 5)", x.asked(3, 5), 10);
        x.sync();
        Forge.dueRow(check, x, 1536, Forge.row(0, 1, 3, 9, 5, 6, 7, 8, 9, 10));
    }

    /** Running with rows of key 7, so many that this many writes wait, none of which has come. */
    private static BuildDisk waiting(int writes) {
        BuildDisk x = Forge.running(40);
        for (int i = 0; i < writes; i++) {
            x.row(7, i);
        }
        check.due("about(2)", x.about(2), writes);
        check.dueByte(x, 2, 0, 0);
        return x;
    }

    private static void dueRanOver(BuildDisk x, int waits) {
        check.due("about(2)", x.about(2), waits);
        check.dueByte(x, 2, 0, 1);
        check.dueByte(x, 5, 12 * 32, 1);
    }

    private static void dueNotRunOver(BuildDisk x) {
        check.due("about(2)", x.about(2), 64);
        check.dueByte(x, 2, 0, 0);
    }

    private static void rowsRunOver() {
        check.about("(where there would be more than 64, all that WAIT come to it first), a ROW");
        BuildDisk x = waiting(63);
        x.row(8, 8);
        dueNotRunOver(x);
        check.due("row(9, 9)", x.row(9, 9), 64);
        dueRanOver(x, 1);
        check.dueByte(x, 5, 15 * 32 + 1, 8);
        check.dueByte(x, 6, 0, 0);
        check.due("sync()", x.sync(), 1);
        Forge.dueRow(check, x, 6 * 512, Forge.row(64, 1, 9, 9));
    }

    private static void asksRunOver() {
        check.about("(where there would be more than 64, all that WAIT come to it first), a SECTOR that WAITS anew");
        BuildDisk x = waiting(63);
        check.due("asks(62, 1)", x.asks(62, 1), 1);
        dueNotRunOver(x);
        check.due("asks(62, 2)", x.asks(62, 2), 2);
        dueRanOver(x, 1);
        Forge.dueRow(check, x, 1024 + 62 * 32, Forge.row(62, 1, 7, 62, 1));
        x.sync();
        Forge.dueRow(check, x, 1024 + 62 * 32, Forge.row(62, 1, 7, 62, 1, 2));
    }

    private static void lockRunsOver() {
        check.about("(where there would be more than 64, all that WAIT come to it first), a LOCK");
        BuildDisk x = waiting(64);
        check.due("lock(5)", x.lock(5), 1);
        dueRanOver(x, 1);
        check.dueByte(x, 6, 0, 0);
        x.sync();
        Forge.dueRow(check, x, 6 * 512, Forge.row(64, 2, 5, 0));
    }

    private static void deadRunsOver() {
        check.about("(where there would be more than 64, all that WAIT come to it first), a FREED");
        BuildDisk x = waiting(63);
        x.lock(5);
        dueNotRunOver(x);
        check.due("dead(5)", x.dead(5), 1);
        dueRanOver(x, 1);
        x.sync();
        Forge.dueRow(check, x, 6 * 512, Forge.row(64, 3, 5, 0));
    }

    private static void firstStepRunsOver() {
        check.about("(where there would be more than 64, all that WAIT come to it first), in the midst of 19 SECTORS");
        for (int more = 0; more <= 19; more++) {
            BuildDisk x = waiting(45 + more);
            x.poke(21 * 512, 9);
            x.poke((21 + 18) * 512, 9);
            check.due("compact(1)", x.compact(1), 1);
            check.due("about(2)", x.about(2), more == 0 ? 64 : more);
            check.dueByte(x, 2, 0, more == 0 ? 0 : 1);
            check.dueByte(x, 21, 0, more == 0 || more == 19 ? 9 : 0);
            check.dueByte(x, 39, 0, 9);
            x.sync();
            check.dueByte(x, 21, 0, 0);
            check.dueByte(x, 39, 0, 0);
        }
    }

    private static void copyRunsOver() {
        check.about("(where there would be more than 64, all that WAIT come to it first), a COPY");
        BuildDisk x = Forge.running(40);
        x.row(1, 1);
        x.row(2, 2);
        x.row(3, 3);
        x.compact(1);
        x.sync();
        for (int i = 0; i < 62; i++) {
            x.row(9, i);
        }
        check.due("compact(1)", x.compact(1), 1);
        check.due("about(2)", x.about(2), 63);
        check.due("compact(1)", x.compact(1), 1);
        check.due("about(2)", x.about(2), 64);
        check.dueByte(x, 21, 0, 0);
        check.due("compact(1)", x.compact(1), 1);
        check.due("about(2)", x.about(2), 1);
        check.dueByte(x, 21, 1, 1);
        check.dueByte(x, 21, 33, 2);
        check.dueByte(x, 21, 65, 0);
        x.sync();
        Forge.dueRow(check, x, 21 * 512, Forge.row(0, 1, 1, 1));
        Forge.dueRow(check, x, 21 * 512 + 32, Forge.row(1, 1, 2, 2));
        Forge.dueRow(check, x, 21 * 512 + 64, Forge.row(2, 1, 3, 3));
    }

    /** Compaction whose last step comes when this many writes wait. */
    private static BuildDisk aheadOfHeads(int writes) {
        BuildDisk x = Forge.running(4);
        x.compact(1);
        x.sync();
        x.row(1, 1);
        for (int i = 0; i < 6; i++) {
            x.asks(0, i);
        }
        for (int i = 0; x.about(2) < writes - 1; i++) {
            x.row(1, 2 + i);
            for (int j = 0; j < 6 && x.about(2) < writes - 1; j++) {
                x.asks(i + 1, j);
            }
        }
        x.compact(x.about(1));
        check.due("about(2)", x.about(2), writes);
        return x;
    }

    private static void firstHeadRunsOver() {
        check.about("(where there would be more than 64, all that WAIT come to it first), the first HEAD");
        BuildDisk x = aheadOfHeads(64);
        check.due("compact(1)", x.compact(1), 1);
        check.due("about(2)", x.about(2), 2);
        check.dueByte(x, 3, 0, 1);
        check.dueByte(x, 1, 7, 1);
        check.dueByte(x, 0, 7, 2);
        BuildDisk y = aheadOfHeads(62);
        check.due("compact(1)", y.compact(1), 1);
        check.due("about(2)", y.about(2), 64);
        check.dueByte(y, 3, 0, 0);
        check.dueByte(y, 1, 7, 1);
    }

    private static void secondHeadRunsOver() {
        check.about("(where there would be more than 64, all that WAIT come to it first), the second HEAD");
        BuildDisk x = aheadOfHeads(63);
        check.due("compact(1)", x.compact(1), 1);
        check.due("about(2)", x.about(2), 1);
        check.dueByte(x, 3, 0, 1);
        check.dueByte(x, 1, 7, 3);
        check.dueByte(x, 0, 7, 2);
        x.cut(0, 0);
        check.due("start()", x.start(), 1);
        check.due("about(5)", x.about(5), 1);
        check.due("about(6)", x.about(6), 5);
    }

    private static void refusedCallsDoNotRunOver() {
        check.about("64 WRITES that WAIT stay at a refused call");
        BuildDisk x = waiting(64);
        x.row(64, 1);
        x.asks(62, 1);
        x.asks(63, 64);
        x.lock(8);
        x.dead(0);
        x.compact(0);
        x.start();
        x.poke(2, 0);
        x.edition(0);
        dueNotRunOver(x);
        check.due("sync()", x.sync(), 64);
        check.dueByte(x, 2, 0, 1);
    }

    private static void runOverTwice() {
        check.about("the QUEUE runs over again and again");
        BuildDisk x = Forge.running(40);
        for (int i = 1; i <= 300; i++) {
            x.row(i % 64, i);
            if (i % 64 < 2 || i == 300) {
                check.due("about(2) at " + i, x.about(2), (i - 1) % 64 + 1);
            }
        }
        x.cut(0, 0);
        check.due("start()", x.start(), 256);
        check.due("wrong()", x.wrong(), 0);
    }

    private static void runOverIsNoSync() {
        check.about("promise 4: was there already at the latest sync(): that all come is no sync()");
        BuildDisk y = waiting(64);
        check.due("row(9, 9)", y.row(9, 9), 64);
        check.due("about(2)", y.about(2), 1);
        check.due("asks(64, 5)", y.asks(64, 5), 1);
        BuildDisk x = waiting(64);
        check.due("compact(1)", x.compact(1), 1);
        check.due("about(2)", x.about(2), 19);
        check.dueByte(x, 2, 0, 1);
        check.due("asks(63, 5)", x.asks(63, 5), 1);
        x.sync();
        check.due("asks(63, 5)", x.asks(63, 5), -3);
        Forge.dueRow(check, x, 1024 + 63 * 32, Forge.row(63, 1, 7, 63, 5));
    }
}
