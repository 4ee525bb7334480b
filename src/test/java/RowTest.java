/** Promises 3 (row), 4 (asks), 8 (digest), 9 (asked) and 10 (sure). */
public final class RowTest {
    private static final Check check = new Check();
    private static final int[] NO_KEYS = {-1, 64, 255, 256, Integer.MAX_VALUE, Integer.MIN_VALUE};

    public static void main(String[] args) {
        rowsAndTheirBytes();
        wrongRows();
        fullArea();
        unkeptUntilKept();
        asksAndTheirBytes();
        wrongAsks();
        asksBehindSyncAndStart();
        asksOfTakenAndCopied();
        asksAboveAPokedRow();
        digests();
        askedKeys();
        sureKeys();
        sureWithWrongPlaces();
        sureWithUnkept();
        check.end();
    }

    private static void rowsAndTheirBytes() {
        check.about("promise 3");
        BuildDisk x = Forge.running(6);
        long[] digests = {0, -1, Long.MIN_VALUE, Long.MAX_VALUE, 0x0102030405060708L};
        for (int i = 0; i < 20; i++) {
            check.due("row", x.row(i * 3, digests[i % 5]), i);
            check.due("about(1)", x.about(1), i + 1);
            check.due("about(2)", x.about(2), i + 1);
        }
        check.dueByte(x, 2, 0, 0);
        check.due("row(63, 1)", x.row(63, 1), 20);
        check.due("row(0, 2)", x.row(0, 2), 21);
        check.due("sync()", x.sync(), 22);
        Forge.dueRow(check, x, 1024, Forge.row(0, 1, 0, 0));
        Forge.dueRow(check, x, 1024 + 32 * 4, Forge.row(4, 1, 12, digests[4]));
        Forge.dueRow(check, x, 1024 + 32 * 17, Forge.row(17, 1, 51, digests[2]));
        Forge.dueRow(check, x, 1024 + 32 * 21, Forge.row(21, 1, 0, 2));
        check.dueByte(x, 3, 6 * 32, 0);
    }

    private static void wrongRows() {
        check.about("promise 3, wrong inputs");
        BuildDisk x = new BuildDisk(4);
        check.due("row(1, 1)", x.row(1, 1), -3);
        for (int key : NO_KEYS) {
            check.due("row(" + key + ", 1) when not running", x.row(key, 1), -2);
        }
        x.start();
        for (int key : NO_KEYS) {
            check.due("row(" + key + ", 1)", x.row(key, 1), -2);
        }
        check.due("about(1)", x.about(1), 0);
        check.due("about(2)", x.about(2), 3);
    }

    private static void fullArea() {
        check.about("promise 3, no place");
        BuildDisk x = Forge.running(4);
        for (int i = 0; i < 16; i++) {
            check.due("row(9, i)", x.row(9, i), i);
        }
        check.due("about(3)", x.about(3), 0);
        check.due("row(9, 99)", x.row(9, 99), -4);
        check.due("row(8, 88)", x.row(8, 88), -4);
        check.due("row(8, 89)", x.row(8, 89), -4);
        check.due("row(64, 1)", x.row(64, 1), -2);
        check.due("about(1)", x.about(1), 16);
        check.due("about(2)", x.about(2), 16);
        check.due("about(3)", x.about(3), 2);
        check.due("digest(9)", x.digest(9), 99);
        check.due("digest(8)", x.digest(8), 89);
        x.sync();
        Forge.dueRow(check, x, 1024 + 480, Forge.row(15, 1, 9, 15));
        check.dueByte(x, 3, 0, 0);
    }

    private static void unkeptUntilKept() {
        check.about("promise 3, unkept until one is kept or the next start");
        BuildDisk x = Forge.running(4);
        Forge.fill(x, 9);
        x.row(9, 99);
        x.row(8, 88);
        check.due("compact(1000)", x.compact(1000), 18);
        check.due("about(3)", x.about(3), 2);
        check.due("digest(9)", x.digest(9), 99);
        check.due("row(9, 100)", x.row(9, 100), 1);
        check.due("about(3)", x.about(3), 1);
        check.due("digest(9)", x.digest(9), 100);
        x.sync();
        x.cut(0, 0);
        check.due("start()", x.start(), 2);
        check.due("about(3)", x.about(3), 0);
        check.due("digest(8)", x.digest(8), 0);
        check.due("digest(9)", x.digest(9), 100);
    }

    private static void asksAndTheirBytes() {
        check.about("promise 4");
        BuildDisk x = Forge.running(4);
        x.row(1, 5);
        x.row(2, 6);
        int[] keys = {0, 63, 2, 0, 0, 1};
        for (int i = 0; i < 6; i++) {
            check.due("asks(1, key)", x.asks(1, keys[i]), i + 1);
            check.due("about(2)", x.about(2), i + 3);
        }
        check.due("asks(1, 3)", x.asks(1, 3), -4);
        check.due("asks(1, 64)", x.asks(1, 64), -2);
        check.due("about(2)", x.about(2), 8);
        check.due("about(1)", x.about(1), 2);
        x.cut(4, 0);
        Forge.dueRow(check, x, 1024 + 32, Forge.row(1, 1, 2, 6, 0, 63));
        Forge.dueRow(check, x, 1024, Forge.row(0, 1, 1, 5));
        x.start();
        check.due("asked(2, 1)", x.asked(2, 1), 63);
        check.due("asked(2, 2)", x.asked(2, 2), -1);
        x.row(3, 7);
        x.asks(2, 9);
        x.sync();
        Forge.dueRow(check, x, 1024 + 64, Forge.row(2, 1, 3, 7, 9));
    }

    private static void wrongAsks() {
        check.about("promise 4, wrong inputs");
        BuildDisk x = new BuildDisk(4);
        check.due("asks(0, 1) when not running", x.asks(0, 1), -1);
        x.start();
        check.due("asks(0, 1) without rows", x.asks(0, 1), -1);
        x.row(1, 1);
        x.lock(2);
        check.due("asks(1, 1) of a lock", x.asks(1, 1), -1);
        x.dead(2);
        check.due("asks(2, 1) of a freed", x.asks(2, 1), -1);
        check.due("asks(2, 99)", x.asks(2, 99), -1);
        check.due("asks(0, 1) behind the last", x.asks(0, 1), -3);
        check.due("asks(0, 64)", x.asks(0, 64), -2);
        x.row(3, 3);
        for (int row : new int[] {-1, 4, 16, 17, Integer.MAX_VALUE, Integer.MIN_VALUE}) {
            check.due("asks(" + row + ", 1)", x.asks(row, 1), -1);
            check.due("asks(" + row + ", 64)", x.asks(row, 64), -1);
        }
        for (int key : NO_KEYS) {
            check.due("asks(3, " + key + ")", x.asks(3, key), -2);
        }
        check.due("asks(3, 0)", x.asks(3, 0), 1);
        x.cut(99, 0);
        check.due("asks(3, 0) when cut", x.asks(3, 0), -1);
        x.poke(1024 + 32 * 2, 1);
        x.start();
        check.due("asks(2, 0) of a wrong place", x.asks(2, 0), -1);
    }

    private static void asksBehindSyncAndStart() {
        check.about("promise 4, behind sync and start");
        BuildDisk x = Forge.running(4);
        x.row(1, 1);
        check.due("asks(0, 1)", x.asks(0, 1), 1);
        x.sync();
        check.due("asks(0, 1)", x.asks(0, 1), -3);
        check.due("about(2)", x.about(2), 0);
        x.row(2, 2);
        check.due("asks(1, 1)", x.asks(1, 1), 1);
        x.cut(9, 0);
        check.due("start()", x.start(), 2);
        check.due("asks(1, 1)", x.asks(1, 1), -3);
        x.row(3, 3);
        for (int i = 0; i < 6; i++) {
            x.asks(2, 3);
        }
        x.sync();
        check.due("asks(2, 3) of six", x.asks(2, 3), -3);
        BuildDisk y = Forge.running(8);
        for (int i = 0; i < 11; i++) {
            y.row(i, 1);
            for (int j = 0; j < 6 && i < 10; j++) {
                y.asks(i, j);
            }
        }
        check.due("about(2)", y.about(2), 7);
        check.due("asks(10, 1) when the queue ran over", y.asks(10, 1), 1);
    }

    private static void asksOfTakenAndCopied() {
        check.about("promise 4, taken and copied");
        BuildDisk x = Forge.running(4);
        x.row(1, 1);
        x.row(2, 2);
        x.compact(2);
        check.due("asks(1, 5) not taken", x.asks(1, 5), 1);
        x.compact(1);
        check.due("asks(1, 5) taken", x.asks(1, 5), -3);
        x.row(3, 3);
        check.due("asks(2, 5) kept later", x.asks(2, 5), 1);
        check.due("compact(9)", x.compact(9), 2);
        check.due("about(1)", x.about(1), 3);
        check.due("asks(2, 5) copied", x.asks(2, 5), -3);
        x.row(4, 4);
        check.due("asks(3, 5)", x.asks(3, 5), 1);
        check.due("asked(2, 0)", x.asked(2, 0), 5);
        check.due("asked(3, 0)", x.asked(3, 0), 5);
        BuildDisk y = Forge.running(4);
        for (int i = 0; i < 10; i++) {
            y.row(1, i);
        }
        y.sync();
        y.compact(1000);
        check.due("row(2, 2)", y.row(2, 2), 1);
        check.due("asks(1, 1) at a place that sync had seen", y.asks(1, 1), 1);
    }

    private static void asksAboveAPokedRow() {
        check.about("promise 4, the row is written as it is in mind, all else as it is on the disk");
        BuildDisk x = Forge.running(40);
        for (int i = 0; i < 60; i++) {
            x.row(i, i);
        }
        check.due("about(2)", x.about(2), 60);
        check.due("compact(1)", x.compact(1), 1);
        check.due("about(2) when the queue ran over", x.about(2), 15);
        int at = 1024 + 59 * 32;
        for (int i : new int[] {0, 1, 2, 4, 12, 20, 26, 30}) {
            x.poke(at + i, 8);
        }
        x.poke(at - 32 + 16, 3);
        check.due("asks(59, 7)", x.asks(59, 7), 1);
        x.sync();
        Forge.dueRow(check, x, at, Forge.row(59, 1, 59, 59, 7));
        int[] poked = Forge.row(58, 1, 58, 58);
        poked[16] = 3;
        Forge.dueRow(check, x, at - 32, poked);
        check.due("digest(58)", x.digest(58), 58);
    }

    private static void digests() {
        check.about("promise 8");
        BuildDisk x = new BuildDisk(4);
        check.due("digest(1) when not running", x.digest(1), 0);
        x.start();
        check.due("digest(1)", x.digest(1), 0);
        x.row(1, -5);
        x.row(0, Long.MAX_VALUE);
        x.row(63, Long.MIN_VALUE);
        x.lock(2);
        check.due("digest(1)", x.digest(1), -5);
        check.due("digest(0)", x.digest(0), Long.MAX_VALUE);
        check.due("digest(63)", x.digest(63), Long.MIN_VALUE);
        check.due("digest(2)", x.digest(2), 0);
        x.row(1, 6);
        check.due("digest(1)", x.digest(1), 6);
        for (int key : NO_KEYS) {
            check.due("digest(" + key + ")", x.digest(key), 0);
        }
        Forge.fill(x, 0);
        check.due("digest(0)", x.digest(0), 15);
        x.row(0, -9);
        check.due("digest(0) unkept", x.digest(0), -9);
        x.row(5, 55);
        check.due("digest(5) unkept", x.digest(5), 55);
        x.cut(100, 0);
        check.due("digest(0) when cut", x.digest(0), 0);
        x.start();
        check.due("about(3)", x.about(3), 0);
        check.due("digest(0)", x.digest(0), 15);
        check.due("digest(5)", x.digest(5), 0);
    }

    private static void askedKeys() {
        check.about("promise 9");
        BuildDisk x = new BuildDisk(4);
        check.due("asked(1, 0) when not running", x.asked(1, 0), -1);
        x.start();
        check.due("asked(1, 0)", x.asked(1, 0), -1);
        x.row(1, 1);
        int[] keys = {63, 0, 1, 7, 7, 12};
        for (int key : keys) {
            x.asks(0, key);
        }
        for (int i = 0; i < 6; i++) {
            check.due("asked(1, " + i + ")", x.asked(1, i), keys[i]);
        }
        for (int i : new int[] {-1, 6, 7, Integer.MAX_VALUE, Integer.MIN_VALUE}) {
            check.due("asked(1, " + i + ")", x.asked(1, i), -1);
        }
        for (int key : NO_KEYS) {
            check.due("asked(" + key + ", 0)", x.asked(key, 0), -1);
        }
        x.row(2, 2);
        x.asks(1, 33);
        check.due("asked(2, 0)", x.asked(2, 0), 33);
        check.due("asked(2, 1)", x.asked(2, 1), -1);
        x.row(1, 2);
        check.due("asked(1, 0) of the latest", x.asked(1, 0), -1);
        Forge.fill(x, 5);
        check.due("asked(2, 0)", x.asked(2, 0), 33);
        x.row(2, 3);
        check.due("asked(2, 0) unkept", x.asked(2, 0), -1);
        x.cut(100, 0);
        check.due("asked(2, 0) when cut", x.asked(2, 0), -1);
        x.start();
        check.due("asked(2, 0) started", x.asked(2, 0), 33);
    }

    private static void sureKeys() {
        check.about("promise 10");
        BuildDisk x = new BuildDisk(4);
        check.due("sure(1) when not running", x.sure(1), false);
        x.start();
        check.due("sure(1)", x.sure(1), false);
        x.row(1, 1);
        check.due("sure(1)", x.sure(1), true);
        x.row(2, 2);
        x.asks(1, 1);
        check.due("sure(2)", x.sure(2), true);
        x.asks(1, 3);
        check.due("sure(2) asks one without a row", x.sure(2), false);
        x.row(3, 3);
        check.due("sure(2) asks one behind it", x.sure(2), false);
        x.row(2, 2);
        check.due("sure(2) anew", x.sure(2), true);
        x.asks(3, 2);
        check.due("sure(2) asks itself", x.sure(2), false);
        x.row(4, 4);
        for (int i = 0; i < 5; i++) {
            x.asks(4, 1);
        }
        x.asks(4, 9);
        check.due("sure(4) by its sixth", x.sure(4), false);
        x.row(4, 4);
        x.asks(5, 2);
        check.due("sure(4) asks one that is not sure", x.sure(4), true);
        x.row(2, 3);
        check.due("sure(4) asks one that came anew", x.sure(4), false);
        for (int key : NO_KEYS) {
            check.due("sure(" + key + ")", x.sure(key), false);
        }
        x.cut(0, 0);
        check.due("sure(1) when cut", x.sure(1), false);
    }

    private static void sureWithWrongPlaces() {
        check.about("promise 10, wrong places");
        BuildDisk x = Forge.running(4);
        x.row(1, 1);
        x.row(2, 2);
        x.row(3, 3);
        x.asks(2, 1);
        x.row(4, 4);
        x.asks(3, 2);
        x.sync();
        x.poke(1024 + 32 + 20, 128);
        check.due("sure(2) in mind", x.sure(2), true);
        x.cut(0, 0);
        check.due("start()", x.start(), 3);
        check.due("sure(1) a wrong place behind", x.sure(1), false);
        check.due("sure(2)", x.sure(2), false);
        check.due("sure(3) asks one ahead of the wrong place", x.sure(3), true);
        check.due("sure(4) asks the lost one", x.sure(4), false);
        check.due("digest(1)", x.digest(1), 1);
        x.row(1, 5);
        check.due("sure(1) anew", x.sure(1), true);
        check.due("sure(3)", x.sure(3), false);
    }

    private static void sureWithUnkept() {
        check.about("promise 10, unkept");
        BuildDisk x = Forge.running(4);
        x.row(1, 1);
        x.row(2, 2);
        x.asks(1, 1);
        Forge.fill(x, 3);
        check.due("sure(2)", x.sure(2), true);
        x.row(1, 9);
        check.due("sure(1) unkept", x.sure(1), true);
        check.due("sure(2) asks an unkept one", x.sure(2), false);
        x.row(7, 9);
        check.due("sure(7) unkept without a row", x.sure(7), true);
        x.row(2, 9);
        check.due("sure(2) unkept", x.sure(2), true);
    }
}
