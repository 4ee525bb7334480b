/**
 * Refused calls: every - 1, - 2, - 3 and - 4, NONE, 0 and false of the promises, each in the states that it is
 * told of, and that nothing else happens then.
 */
public final class RefusedTest {
    private static final Check check = new Check();
    private static final int[] NO_KEYS = {-1, 64, Integer.MIN_VALUE, Integer.MAX_VALUE};
    private static final int[] NO_USERS = {-1, 8, Integer.MIN_VALUE, Integer.MAX_VALUE};

    public static void main(String[] args) {
        startOfAnotherEdition();
        startWhenRunning();
        rowOfNoKey();
        rowWhenNotRunning();
        rowWithoutPlace();
        asksOfNoRow();
        asksOfNoKey();
        asksOfAnEarlierPlace();
        asksBehindSync();
        asksBehindStart();
        asksBehindCompaction();
        asksOfATakenPlace();
        asksOfSix();
        asksOrderOfRefusals();
        syncWhenNotRunning();
        compactOfNoNumber();
        compactWhenNotRunning();
        cutOfNothing();
        digestOfNone();
        askedOfNone();
        sureOfNone();
        sectorOfNone();
        pokeOfNone();
        lockOfNoUser();
        lockWhenNotRunning();
        lockOfAnother();
        lockThatItHas();
        lockWithoutPlace();
        deadOfNoUser();
        deadWhenNotRunning();
        deadOfAnother();
        deadWithoutPlace();
        editionOfNone();
        aboutOfNone();
        check.end();
    }

    private static BuildDisk fresh() {
        return new BuildDisk(4);
    }

    /** Running, with a synced row, user 3 who has the lock, and a last row that waits and may ask. */
    private static BuildDisk busy() {
        BuildDisk x = Forge.running(4);
        x.row(1, 10);
        x.row(2, 20);
        x.asks(1, 1);
        x.sync();
        x.lock(3);
        x.row(4, 40);
        x.asks(3, 2);
        return x;
    }

    private static BuildDisk busySix() {
        BuildDisk x = busy();
        for (int i = 0; i < 5; i++) {
            x.asks(3, 4);
        }
        return x;
    }

    private static BuildDisk busySynced() {
        BuildDisk x = busy();
        x.sync();
        return x;
    }

    private static BuildDisk busyCut() {
        BuildDisk x = busy();
        x.cut(2, 200);
        return x;
    }

    private static BuildDisk busyStarted() {
        BuildDisk x = busy();
        x.cut(9, 0);
        x.start();
        return x;
    }

    private static BuildDisk busyCopied() {
        BuildDisk x = busy();
        x.compact(1000);
        return x;
    }

    private static BuildDisk busyTaken() {
        BuildDisk x = busy();
        x.compact(5);
        return x;
    }

    private static BuildDisk nobodyHasIt() {
        BuildDisk x = busy();
        x.dead(3);
        return x;
    }

    private static BuildDisk wrongPlace() {
        BuildDisk x = busySynced();
        x.poke(1024, 1);
        x.cut(0, 0);
        x.start();
        return x;
    }

    private static BuildDisk fullWithLock() {
        BuildDisk x = busy();
        Forge.fill(x, 6);
        return x;
    }

    private static BuildDisk fullWithoutLock() {
        BuildDisk x = nobodyHasIt();
        Forge.fill(x, 6);
        return x;
    }

    private static BuildDisk fullUnkept() {
        BuildDisk x = fullWithLock();
        x.row(1, 11);
        x.row(9, 99);
        return x;
    }

    /** Heads of edition 7, and what another start had found wrong. */
    private static BuildDisk otherEdition(int e) {
        BuildDisk x = fresh();
        x.edition(7);
        x.start();
        x.row(1, 10);
        x.row(2, 20);
        x.sync();
        x.poke(1024, 1);
        x.cut(0, 0);
        x.start();
        x.sync();
        x.poke(1024, 1);
        x.cut(0, 0);
        x.edition(e);
        return x;
    }

    private static void startOfAnotherEdition() {
        check.about("promise 2: if its EDITION is neither the one that it goes by nor one less: - 1, and nothing happens");
        for (int e : new int[] {1, 5, 6, 9, 10, 200}) {
            Same.due(check, () -> otherEdition(e), "start() by edition " + e, x -> x.start(), -1);
        }
        BuildDisk x = otherEdition(9);
        x.start();
        check.due("wrong() of the start before", x.wrong(), 1);
        check.due("edition(8)", x.edition(8), 1);
        check.due("start() by one more", x.start(), 2);
        check.due("about(6)", x.about(6), 6);
        BuildDisk y = otherEdition(9);
        check.due("start()", y.start(), -1);
        check.due("start() again", y.start(), -1);
        y.poke(100, 1);
        y.poke(612, 1);
        check.due("start() when both heads are gone", y.start(), 0);
        y.sync();
        check.dueByte(y, 0, 3, 9);
    }

    private static void startWhenRunning() {
        check.about("promise 2: - 3: it is RUNNING");
        Same.due(check, () -> Forge.running(4), "start()", x -> x.start(), -3);
        Same.due(check, RefusedTest::busy, "start()", x -> x.start(), -3);
        Same.due(check, RefusedTest::busyTaken, "start()", x -> x.start(), -3);
        Same.due(check, RefusedTest::wrongPlace, "start()", x -> x.start(), -3);
        Same.due(check, RefusedTest::fullUnkept, "start()", x -> x.start(), -3);
        Same.due(check, () -> {
            BuildDisk x = busy();
            x.edition(5);
            return x;
        }, "start() with another edition set", x -> x.start(), -3);
    }

    private static void rowOfNoKey() {
        check.about("promise 3: - 2: no such KEY");
        for (int key : NO_KEYS) {
            Same.due(check, RefusedTest::busy, "row(" + key + ", 5)", x -> x.row(key, 5), -2);
            Same.due(check, RefusedTest::fullUnkept, "row(" + key + ", 5) when full", x -> x.row(key, 5), -2);
            Same.due(check, RefusedTest::busyCut, "row(" + key + ", 5) when cut", x -> x.row(key, 5), -2);
        }
    }

    private static void rowWhenNotRunning() {
        check.about("promise 3: - 3: not RUNNING");
        for (int key : new int[] {0, 1, 63}) {
            Same.due(check, RefusedTest::fresh, "row(" + key + ", 5)", x -> x.row(key, 5), -3);
            Same.due(check, RefusedTest::busyCut, "row(" + key + ", 5) when cut", x -> x.row(key, 5), -3);
        }
        Same.due(check, () -> otherEdition(9), "row(1, 5) when a start is refused", x -> x.row(1, 5), -3);
    }

    private static void rowWithoutPlace() {
        check.about("promise 3: - 4: there is no PLACE (the KEY is UNKEPT, with this DIGEST)");
        BuildDisk x = fullWithLock();
        int waiting = x.about(2);
        check.due("row(2, 77)", x.row(2, 77), -4);
        check.due("about(1)", x.about(1), 16);
        check.due("about(2)", x.about(2), waiting);
        check.due("about(3)", x.about(3), 1);
        check.due("about(4)", x.about(4), 3);
        check.due("digest(2)", x.digest(2), 77);
        check.due("asked(2, 0)", x.asked(2, 0), -1);
        check.due("sure(2)", x.sure(2), true);
        check.due("digest(1) of another", x.digest(1), 10);
        check.due("row(2, 78)", x.row(2, 78), -4);
        check.due("about(3)", x.about(3), 1);
        check.due("digest(2)", x.digest(2), 78);
        x.sync();
        Forge.dueRow(check, x, 1024 + 15 * 32, Forge.row(15, 1, 6, 15));
        check.dueByte(x, 3, 0, 0);
    }

    private static void noRowAt(String state, Same.Make make, int... places) {
        for (int place : places) {
            for (int other : new int[] {1, 64}) {
                Same.due(check, make, "asks(" + place + ", " + other + ") " + state, x -> x.asks(place, other), -1);
            }
        }
    }

    private static void asksOfNoRow() {
        check.about("promise 4: - 1: at this PLACE is no ROW of KIND KEY (none is anywhere when not RUNNING)");
        noRowAt("when fresh", RefusedTest::fresh, -1, 0, 1);
        noRowAt("when cut", RefusedTest::busyCut, 0, 1, 3);
        noRowAt("without a row", () -> Forge.running(4), -1, 0, 15, 16);
        noRowAt("outside", RefusedTest::busy, -1, 4, 15, 16, Integer.MAX_VALUE, Integer.MIN_VALUE);
        noRowAt("of a lock", RefusedTest::busy, 2);
        noRowAt("of a last lock", () -> {
            BuildDisk x = Forge.running(4);
            x.lock(5);
            return x;
        }, 0);
        noRowAt("of a last freed", RefusedTest::nobodyHasIt, 4);
        noRowAt("of a wrong place", RefusedTest::wrongPlace, 0);
        noRowAt("behind a full area", RefusedTest::fullUnkept, 16, 17, 32);
    }

    private static void asksOfNoKey() {
        check.about("promise 4: - 2: no such KEY");
        for (int key : NO_KEYS) {
            Same.due(check, RefusedTest::busy, "asks(3, " + key + ")", x -> x.asks(3, key), -2);
        }
    }

    private static void asksOfAnEarlierPlace() {
        check.about("promise 4: - 3: it isn't at the last PLACE");
        Same.due(check, () -> {
            BuildDisk x = Forge.running(4);
            x.row(1, 1);
            x.row(2, 2);
            return x;
        }, "asks(0, 2)", x -> x.asks(0, 2), -3);
        Same.due(check, () -> {
            BuildDisk x = Forge.running(4);
            x.row(1, 1);
            x.lock(2);
            return x;
        }, "asks(0, 2) ahead of a lock", x -> x.asks(0, 2), -3);
    }

    private static void asksBehindSync() {
        check.about("promise 4: - 3: was there already at the latest sync()");
        Same.due(check, RefusedTest::busySynced, "asks(3, 1)", x -> x.asks(3, 1), -3);
        BuildDisk x = busySynced();
        check.due("row(5, 5)", x.row(5, 5), 4);
        check.due("asks(4, 1) of one that came later", x.asks(4, 1), 1);
    }

    private static void asksBehindStart() {
        check.about("promise 4: - 3: was there already at the latest start");
        Same.due(check, RefusedTest::busyStarted, "asks(3, 1)", x -> x.asks(3, 1), -3);
        BuildDisk x = busyStarted();
        check.due("row(5, 5)", x.row(5, 5), 4);
        check.due("asks(4, 1) of one that came later", x.asks(4, 1), 1);
    }

    private static void asksBehindCompaction() {
        check.about("promise 4: - 3: was COPIED here");
        Same.due(check, RefusedTest::busyCopied, "asks(3, 1)", x -> x.asks(3, 1), -3);
        BuildDisk x = busyCopied();
        check.due("row(5, 5)", x.row(5, 5), 4);
        check.due("asks(4, 1) of one that came later", x.asks(4, 1), 1);
    }

    private static void asksOfATakenPlace() {
        check.about("promise 4: - 3: is TAKEN");
        Same.due(check, RefusedTest::busyTaken, "asks(3, 1)", x -> x.asks(3, 1), -3);
        BuildDisk x = busy();
        x.compact(4);
        check.due("about(7)", x.about(7), 3);
        check.due("asks(3, 1) when the three ahead are taken", x.asks(3, 1), 2);
        x.compact(1);
        check.due("asks(3, 1)", x.asks(3, 1), -3);
    }

    private static void asksOfSix() {
        check.about("promise 4: - 4: it ASKS six");
        for (int other : new int[] {0, 2, 4, 63}) {
            Same.due(check, RefusedTest::busySix, "asks(3, " + other + ")", x -> x.asks(3, other), -4);
        }
    }

    private static void asksOrderOfRefusals() {
        check.about("promise 4, where several fit the first one named is answered");
        Same.due(check, RefusedTest::busy, "asks(2, 64): - 1 and - 2", x -> x.asks(2, 64), -1);
        Same.due(check, RefusedTest::busy, "asks(2, 1): - 1 and - 3", x -> x.asks(2, 1), -1);
        Same.due(check, RefusedTest::busySynced, "asks(3, 64): - 2 and - 3", x -> x.asks(3, 64), -2);
        Same.due(check, RefusedTest::busySix, "asks(3, 64): - 2 and - 4", x -> x.asks(3, 64), -2);
        Same.due(check, () -> {
            BuildDisk x = busySix();
            x.sync();
            return x;
        }, "asks(3, 1): - 3 and - 4", x -> x.asks(3, 1), -3);
    }

    private static void syncWhenNotRunning() {
        check.about("promise 5: - 3: not RUNNING");
        Same.due(check, RefusedTest::fresh, "sync()", x -> x.sync(), -3);
        Same.due(check, RefusedTest::busyCut, "sync() when cut", x -> x.sync(), -3);
        Same.due(check, () -> otherEdition(9), "sync() when a start is refused", x -> x.sync(), -3);
    }

    private static void compactOfNoNumber() {
        check.about("promise 6: - 2: n isn't so");
        for (int n : new int[] {0, -1, 1001, Integer.MIN_VALUE, Integer.MAX_VALUE}) {
            Same.due(check, RefusedTest::busy, "compact(" + n + ")", x -> x.compact(n), -2);
            Same.due(check, RefusedTest::busyTaken, "compact(" + n + ") under way", x -> x.compact(n), -2);
            Same.due(check, RefusedTest::busyCut, "compact(" + n + ") when cut", x -> x.compact(n), -2);
        }
    }

    private static void compactWhenNotRunning() {
        check.about("promise 6: - 3: not RUNNING");
        for (int n : new int[] {1, 2, 1000}) {
            Same.due(check, RefusedTest::fresh, "compact(" + n + ")", x -> x.compact(n), -3);
            Same.due(check, RefusedTest::busyCut, "compact(" + n + ") when cut", x -> x.compact(n), -3);
        }
    }

    private static void cutOfNothing() {
        check.about("promise 7, when nothing WAITS and it is not RUNNING");
        Same.Call cut = x -> {
            x.cut(5, 300);
            return 0;
        };
        Same.due(check, RefusedTest::fresh, "cut(5, 300)", cut, 0);
        Same.due(check, RefusedTest::busyCut, "cut(5, 300) when cut", cut, 0);
    }

    private static void digestOfNone() {
        check.about("promise 8: 0 without, when not RUNNING, and of no KEY");
        Same.due(check, RefusedTest::busy, "digest(5) without", x -> x.digest(5), 0);
        Same.due(check, RefusedTest::busy, "digest(3), a user's number", x -> x.digest(3), 0);
        Same.due(check, RefusedTest::fresh, "digest(1)", x -> x.digest(1), 0);
        Same.due(check, RefusedTest::busyCut, "digest(1) when cut", x -> x.digest(1), 0);
        Same.due(check, () -> cutOf(fullUnkept()), "digest(9) unkept when cut", x -> x.digest(9), 0);
        for (int key : NO_KEYS) {
            Same.due(check, RefusedTest::fullUnkept, "digest(" + key + ")", x -> x.digest(key), 0);
        }
    }

    private static BuildDisk cutOf(BuildDisk x) {
        x.cut(64, 0);
        return x;
    }

    private static void askedOfNone() {
        check.about("promise 9: NONE without, when the KEY is UNKEPT, or when not RUNNING");
        for (int i : new int[] {-1, 1, 2, 6, Integer.MIN_VALUE, Integer.MAX_VALUE}) {
            Same.due(check, RefusedTest::busy, "asked(4, " + i + ") of one asked", x -> x.asked(4, i), -1);
        }
        Same.due(check, RefusedTest::busy, "asked(1, 0) of none asked", x -> x.asked(1, 0), -1);
        Same.due(check, RefusedTest::busy, "asked(5, 0) without a row", x -> x.asked(5, 0), -1);
        for (int key : NO_KEYS) {
            Same.due(check, RefusedTest::busy, "asked(" + key + ", 0)", x -> x.asked(key, 0), -1);
        }
        Same.due(check, () -> {
            BuildDisk x = fullWithLock();
            x.row(2, 21);
            return x;
        }, "asked(2, 0) unkept", x -> x.asked(2, 0), -1);
        Same.due(check, RefusedTest::fresh, "asked(2, 0)", x -> x.asked(2, 0), -1);
        Same.due(check, RefusedTest::busyCut, "asked(2, 0) when cut", x -> x.asked(2, 0), -1);
    }

    private static long sure(BuildDisk x, int key) {
        return x.sure(key) ? 1 : 0;
    }

    private static void sureOfNone() {
        check.about("promise 10: false when not RUNNING, and of no KEY");
        Same.due(check, RefusedTest::fresh, "sure(1)", x -> sure(x, 1), 0);
        Same.due(check, RefusedTest::busyCut, "sure(1) when cut", x -> sure(x, 1), 0);
        Same.due(check, () -> cutOf(fullUnkept()), "sure(9) unkept when cut", x -> sure(x, 9), 0);
        for (int key : NO_KEYS) {
            Same.due(check, RefusedTest::fullUnkept, "sure(" + key + ")", x -> sure(x, key), 0);
        }
    }

    private static long thrown(BuildDisk x, int n, int i) {
        try {
            x.sector(n, i);
        } catch (ArrayIndexOutOfBoundsException e) {
            return 1;
        }
        return 0;
    }

    private static void sectorOfNone() {
        check.about("promise 11: ArrayIndexOutOfBoundsException: there is none such");
        int[][] none = {{-1, 0}, {4, 0}, {0, -1}, {0, 512}, {3, 512}, {1, -512}, {-1, 512}, {4, -512}, {2, Integer.MAX_VALUE},
            {Integer.MAX_VALUE, 2}, {Integer.MIN_VALUE, 0}, {0, Integer.MIN_VALUE}};
        for (int[] b : none) {
            Same.due(check, RefusedTest::busy, "sector(" + b[0] + ", " + b[1] + ") throws", x -> thrown(x, b[0], b[1]), 1);
            Same.due(check, RefusedTest::fresh, "sector(" + b[0] + ", " + b[1] + ") throws", x -> thrown(x, b[0], b[1]), 1);
        }
    }

    private static void pokeOfNone() {
        check.about("promise 12: - 2: there is none such, or the mask isn't 1 .. 255");
        int[][] none = {{-1, 1}, {2048, 1}, {0, 0}, {0, 256}, {1024, -1}, {1024, 511}, {Integer.MIN_VALUE, 1}, {Integer.MAX_VALUE, 255},
            {2047, Integer.MIN_VALUE}, {2047, Integer.MAX_VALUE}};
        for (int[] p : none) {
            Same.due(check, RefusedTest::busy, "poke(" + p[0] + ", " + p[1] + ")", x -> x.poke(p[0], p[1]), -2);
            Same.due(check, RefusedTest::busyCut, "poke(" + p[0] + ", " + p[1] + ") when cut", x -> x.poke(p[0], p[1]), -2);
        }
    }

    private static void lockOfNoUser() {
        check.about("promise 14: - 2: no such USER");
        for (int user : NO_USERS) {
            Same.due(check, RefusedTest::busy, "lock(" + user + ")", x -> x.lock(user), -2);
            Same.due(check, RefusedTest::nobodyHasIt, "lock(" + user + ") when free", x -> x.lock(user), -2);
            Same.due(check, RefusedTest::fullWithoutLock, "lock(" + user + ") when full", x -> x.lock(user), -2);
            Same.due(check, RefusedTest::busyCut, "lock(" + user + ") when cut", x -> x.lock(user), -2);
        }
    }

    private static void lockWhenNotRunning() {
        check.about("promise 14: - 3: not RUNNING");
        for (int user : new int[] {0, 3, 7}) {
            Same.due(check, RefusedTest::fresh, "lock(" + user + ")", x -> x.lock(user), -3);
            Same.due(check, RefusedTest::busyCut, "lock(" + user + ") when cut", x -> x.lock(user), -3);
        }
    }

    private static void lockOfAnother() {
        check.about("promise 14: 0 if another one has it");
        for (int user : new int[] {0, 2, 4, 7}) {
            Same.due(check, RefusedTest::busy, "lock(" + user + ")", x -> x.lock(user), 0);
            Same.due(check, RefusedTest::fullWithLock, "lock(" + user + ") when full", x -> x.lock(user), 0);
        }
    }

    private static void lockThatItHas() {
        check.about("promise 14: 1 if it has it");
        Same.due(check, RefusedTest::busy, "lock(3)", x -> x.lock(3), 1);
        Same.due(check, RefusedTest::fullWithLock, "lock(3) when full", x -> x.lock(3), 1);
    }

    private static void lockWithoutPlace() {
        check.about("promise 14: - 4: there is no PLACE");
        for (int user : new int[] {0, 3, 7}) {
            Same.due(check, RefusedTest::fullWithoutLock, "lock(" + user + ")", x -> x.lock(user), -4);
        }
    }

    private static void deadOfNoUser() {
        check.about("promise 15: - 2 likewise: no such USER");
        for (int user : NO_USERS) {
            Same.due(check, RefusedTest::busy, "dead(" + user + ")", x -> x.dead(user), -2);
            Same.due(check, RefusedTest::nobodyHasIt, "dead(" + user + ") when free", x -> x.dead(user), -2);
            Same.due(check, RefusedTest::fullWithLock, "dead(" + user + ") when full", x -> x.dead(user), -2);
            Same.due(check, RefusedTest::busyCut, "dead(" + user + ") when cut", x -> x.dead(user), -2);
        }
    }

    private static void deadWhenNotRunning() {
        check.about("promise 15: - 3 likewise: not RUNNING");
        for (int user : new int[] {0, 3, 7}) {
            Same.due(check, RefusedTest::fresh, "dead(" + user + ")", x -> x.dead(user), -3);
            Same.due(check, RefusedTest::busyCut, "dead(" + user + ") when cut", x -> x.dead(user), -3);
        }
    }

    private static void deadOfAnother() {
        check.about("promise 15: else 0");
        for (int user : new int[] {0, 2, 4, 7}) {
            Same.due(check, RefusedTest::busy, "dead(" + user + ")", x -> x.dead(user), 0);
            Same.due(check, RefusedTest::fullWithLock, "dead(" + user + ") when full", x -> x.dead(user), 0);
        }
        Same.due(check, RefusedTest::nobodyHasIt, "dead(3) again", x -> x.dead(3), 0);
        Same.due(check, RefusedTest::fullWithoutLock, "dead(3) when full", x -> x.dead(3), 0);
        Same.due(check, () -> Forge.running(4), "dead(0) without a row", x -> x.dead(0), 0);
    }

    private static void deadWithoutPlace() {
        check.about("promise 15: - 4 likewise: there is no PLACE");
        Same.due(check, RefusedTest::fullWithLock, "dead(3)", x -> x.dead(3), -4);
    }

    private static void editionOfNone() {
        check.about("promise 16: - 2: it isn't so");
        for (int e : new int[] {0, -1, 201, 255, 256, Integer.MIN_VALUE, Integer.MAX_VALUE}) {
            Same.due(check, RefusedTest::fresh, "edition(" + e + ")", x -> x.edition(e), -2);
            Same.due(check, RefusedTest::busy, "edition(" + e + ")", x -> x.edition(e), -2);
            Same.due(check, () -> otherEdition(8), "edition(" + e + ")", x -> x.edition(e), -2);
        }
    }

    private static void aboutOfNone() {
        check.about("promise 17: NONE for others, and for 1 to 7 when not RUNNING");
        for (int what : new int[] {-1, 9, 10, 64, Integer.MIN_VALUE, Integer.MAX_VALUE}) {
            Same.due(check, RefusedTest::fresh, "about(" + what + ")", x -> x.about(what), -1);
            Same.due(check, RefusedTest::busyTaken, "about(" + what + ")", x -> x.about(what), -1);
        }
        for (int what = 1; what <= 7; what++) {
            int asked = what;
            Same.due(check, RefusedTest::fresh, "about(" + what + ")", x -> x.about(asked), -1);
            Same.due(check, () -> cutOf(busyTaken()), "about(" + what + ") when cut", x -> x.about(asked), -1);
            Same.due(check, () -> otherEdition(9), "about(" + what + ") when a start is refused", x -> x.about(asked), -1);
        }
    }
}
