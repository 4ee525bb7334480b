/** Promises 14 (lock), 15 (dead) and 17 (about). */
public final class LockAboutTest {
    private static final Check check = new Check();
    private static final int[] NO_USERS = {-1, 8, 9, 64, 256, Integer.MAX_VALUE, Integer.MIN_VALUE};

    public static void main(String[] args) {
        locks();
        deaths();
        lockWithoutPlace();
        lockOverStarts();
        aboutNotRunning();
        aboutRunning();
        check.end();
    }

    private static void locks() {
        check.about("promise 14");
        BuildDisk x = new BuildDisk(4);
        check.due("lock(0) when not running", x.lock(0), -3);
        for (int user : NO_USERS) {
            check.due("lock(" + user + ") when not running", x.lock(user), -2);
        }
        x.start();
        x.sync();
        for (int user : NO_USERS) {
            check.due("lock(" + user + ")", x.lock(user), -2);
        }
        check.due("lock(7)", x.lock(7), 1);
        check.due("about(1)", x.about(1), 1);
        check.due("about(2)", x.about(2), 1);
        check.due("lock(7) again", x.lock(7), 1);
        check.due("about(1)", x.about(1), 1);
        check.due("about(2)", x.about(2), 1);
        check.due("lock(0)", x.lock(0), 0);
        check.due("about(1)", x.about(1), 1);
        check.due("about(4)", x.about(4), 7);
        x.sync();
        Forge.dueRow(check, x, 1024, Forge.row(0, 2, 7, 0));
        check.due("dead(7)", x.dead(7), 1);
        check.due("about(4)", x.about(4), -1);
        check.due("lock(0)", x.lock(0), 1);
        check.due("about(4)", x.about(4), 0);
        x.sync();
        Forge.dueRow(check, x, 1024 + 64, Forge.row(2, 2, 0, 0));
    }

    private static void deaths() {
        check.about("promise 15");
        BuildDisk x = new BuildDisk(4);
        check.due("dead(0) when not running", x.dead(0), -3);
        for (int user : NO_USERS) {
            check.due("dead(" + user + ") when not running", x.dead(user), -2);
        }
        x.start();
        x.sync();
        for (int user : NO_USERS) {
            check.due("dead(" + user + ")", x.dead(user), -2);
        }
        check.due("dead(3) without a lock", x.dead(3), 0);
        x.lock(3);
        check.due("dead(4)", x.dead(4), 0);
        check.due("about(1)", x.about(1), 1);
        check.due("dead(3)", x.dead(3), 1);
        check.due("about(1)", x.about(1), 2);
        check.due("about(4)", x.about(4), -1);
        check.due("dead(3) again", x.dead(3), 0);
        check.due("about(1)", x.about(1), 2);
        check.due("sync()", x.sync(), 2);
        Forge.dueRow(check, x, 1024 + 32, Forge.row(1, 3, 3, 0));
        x.cut(0, 0);
        check.due("dead(3) when cut", x.dead(3), -3);
    }

    private static void lockWithoutPlace() {
        check.about("promises 14 and 15, no place");
        BuildDisk x = new BuildDisk(4);
        x.start();
        for (int i = 0; i < 16; i++) {
            x.row(1, i);
        }
        check.due("lock(1)", x.lock(1), -4);
        check.due("lock(8)", x.lock(8), -2);
        check.due("dead(1)", x.dead(1), 0);
        check.due("about(4)", x.about(4), -1);
        check.due("about(3)", x.about(3), 0);
        x.compact(1000);
        x.lock(1);
        for (int i = 0; i < 14; i++) {
            x.row(1, i);
        }
        check.due("about(1)", x.about(1), 16);
        check.due("lock(1) that it has", x.lock(1), 1);
        check.due("lock(2)", x.lock(2), 0);
        check.due("dead(2)", x.dead(2), 0);
        check.due("dead(1)", x.dead(1), -4);
        check.due("about(4)", x.about(4), 1);
        check.due("about(3)", x.about(3), 0);
        x.compact(1000);
        check.due("dead(1)", x.dead(1), 1);
        check.due("lock(2)", x.lock(2), 1);
    }

    private static void lockOverStarts() {
        check.about("promises 14 and 15, over starts");
        BuildDisk x = new BuildDisk(4);
        x.start();
        x.lock(6);
        x.sync();
        x.cut(0, 0);
        check.due("about(4) when cut", x.about(4), -1);
        x.start();
        check.due("about(4)", x.about(4), 6);
        check.due("lock(1)", x.lock(1), 0);
        check.due("dead(6)", x.dead(6), 1);
        x.cut(2, 0);
        x.start();
        check.due("about(4) a freed row that did not come", x.about(4), 6);
        x.dead(6);
        x.sync();
        x.cut(0, 0);
        x.start();
        check.due("about(4)", x.about(4), -1);
        x.poke(1024 + 32 + 28, 1);
        x.cut(0, 0);
        x.start();
        check.due("about(4) without the freed row", x.about(4), 6);
    }

    private static void aboutNotRunning() {
        check.about("promise 17, not running");
        BuildDisk x = new BuildDisk(40);
        for (int round = 0; round < 2; round++) {
            check.due("about(0)", x.about(0), 0);
            for (int what = 1; what <= 7; what++) {
                check.due("about(" + what + ")", x.about(what), -1);
            }
            check.due("about(8)", x.about(8), 304);
            others(x);
            x.start();
            others(x);
            x.cut(0, 0);
        }
    }

    private static void others(BuildDisk x) {
        for (int what : new int[] {-1, 9, 10, Integer.MAX_VALUE, Integer.MIN_VALUE}) {
            check.due("about(" + what + ")", x.about(what), -1);
        }
    }

    private static void aboutAll(BuildDisk x, int... want) {
        for (int what = 0; what < want.length; what++) {
            check.due("about(" + what + ")", x.about(what), want[what]);
        }
    }

    private static void aboutRunning() {
        check.about("promise 17, running");
        BuildDisk x = new BuildDisk(5);
        x.start();
        aboutAll(x, 1, 0, 3, 0, -1, 0, 2, -1, 16);
        x.row(1, 1);
        x.lock(0);
        aboutAll(x, 1, 2, 5, 0, 0, 0, 2, -1, 16);
        for (int i = 0; i < 17; i++) {
            x.row(20 + i, 1);
        }
        aboutAll(x, 1, 16, 19, 3, 0, 0, 2, -1, 16);
        x.row(34, 1);
        x.row(20, 1);
        aboutAll(x, 1, 16, 19, 4, 0, 0, 2, -1, 16);
        x.sync();
        x.compact(3);
        aboutAll(x, 1, 16, 3, 4, 0, 0, 2, 2, 16);
        x.compact(1000);
        aboutAll(x, 1, 16, 19, 4, 0, 1, 4, -1, 16);
    }
}
