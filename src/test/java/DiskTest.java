import java.util.Arrays;

/** Promises 5 (sync), 7 (cut), 11 (sector) and 12 (poke), and the queue of writes. */
public final class DiskTest {
    private static final Check check = new Check();

    public static void main(String[] args) {
        syncs();
        queueRunsOver();
        queueRunsOverInTheMidstOfHeads();
        cutsOfTheFirstStart();
        cutsByBytes();
        cutLimits();
        cutThatMakesARow();
        cutForgets();
        sectors();
        pokes();
        pokeAndMind();
        pokeBeneathWaitingWrites();
        check.end();
    }

    private static void syncs() {
        check.about("promise 5");
        BuildDisk x = new BuildDisk(4);
        check.due("sync() when not running", x.sync(), -3);
        x.start();
        check.due("sync()", x.sync(), 3);
        check.due("about(2)", x.about(2), 0);
        check.due("sync()", x.sync(), 0);
        x.row(1, 1);
        check.dueByte(x, 2, 0, 0);
        x.lock(1);
        check.due("sync()", x.sync(), 2);
        check.dueByte(x, 2, 0, 1);
        check.dueByte(x, 2, 32, 2);
        x.cut(0, 0);
        check.due("sync() when cut", x.sync(), -3);
    }

    private static void queueRunsOver() {
        check.about("the queue holds 64");
        BuildDisk x = new BuildDisk(12);
        x.start();
        check.due("about(2)", x.about(2), 7);
        for (int i = 0; i < 57; i++) {
            x.row(i, i);
        }
        check.due("about(2) at 64", x.about(2), 64);
        check.dueByte(x, 0, 7, 0);
        check.dueByte(x, 2, 0, 0);
        check.due("row(60, 1)", x.row(60, 1), 57);
        check.due("about(2) behind 64", x.about(2), 1);
        check.dueByte(x, 0, 7, 2);
        check.dueByte(x, 5, 8 * 32, 1);
        check.dueByte(x, 5, 9 * 32, 0);
        check.due("sync()", x.sync(), 1);
        check.dueByte(x, 5, 9 * 32, 1);
        check.dueByte(x, 5, 8 * 32, 1);
    }

    private static void queueRunsOverInTheMidstOfHeads() {
        check.about("the queue holds 64, heads");
        BuildDisk x = new BuildDisk(12);
        x.start();
        x.sync();
        for (int i = 0; i < 57; i++) {
            x.row(i, i);
        }
        x.sync();
        check.due("compact(58)", x.compact(58), 58);
        check.due("about(2)", x.about(2), 62);
        x.row(57, 57);
        check.due("about(2)", x.about(2), 63);
        x.lock(0);
        check.due("about(2)", x.about(2), 64);
        check.due("compact(1)", x.compact(1), 1);
        check.due("about(2)", x.about(2), 1);
        check.due("compact(1)", x.compact(1), 1);
        check.due("compact(1)", x.compact(1), 1);
        check.due("about(2)", x.about(2), 4);
        check.due("about(1)", x.about(1), 59);
        BuildDisk y = new BuildDisk(4);
        y.start();
        y.row(1, 1);
        for (int i = 0; i < 19; i++) {
            y.compact(3);
        }
        check.due("about(2)", y.about(2), (4 + 19 * 4) % 64);
        check.due("about(6)", y.about(6), 40);
        BuildDisk z = new BuildDisk(4);
        z.start();
        for (int i = 0; i < 20; i++) {
            z.compact(2);
        }
        check.due("about(2)", z.about(2), 63);
        z.compact(1);
        check.due("about(2)", z.about(2), 64);
        z.compact(1);
        check.due("about(2)", z.about(2), 2);
        check.dueByte(z, 0, 7, 42);
        z.sync();
        check.dueByte(z, 0, 7, 44);
        check.dueByte(z, 1, 7, 43);
        check.dueByte(z, 1, 8, 1);
    }

    /** Sector bytes of the two heads by how many of the three first writes came. */
    private static void cutsOfTheFirstStart() {
        check.about("promise 7, writes kept");
        int[][] cuts = { // keep, tear, byte 7 of sector 0, byte 7 of sector 1, sequence of the next start
            {0, 0, 0, 0, 2}, {1, 0, 0, 0, 2}, {2, 0, 0, 1, 3}, {3, 0, 2, 1, 4}, {4, 9, 2, 1, 4},
            {Integer.MAX_VALUE, Integer.MAX_VALUE, 2, 1, 4}, {Integer.MIN_VALUE, Integer.MIN_VALUE, 0, 0, 2},
            {-1, -1, 0, 0, 2}, {1, 8, 0, 1, 2}, {1, 7, 0, 0, 2}, {1, 511, 0, 1, 2}, {1, 512, 0, 1, 3}, {1, 513, 0, 1, 3},
            {2, 7, 0, 1, 3}, {2, 8, 2, 1, 3}, {2, 512, 2, 1, 4}, {2, Integer.MAX_VALUE, 2, 1, 4}};
        for (int[] c : cuts) {
            BuildDisk x = new BuildDisk(4);
            x.start();
            x.cut(c[0], c[1]);
            String call = " behind cut(" + c[0] + ", " + c[1] + ")";
            check.due("byte 7 of 0" + call, x.sector(0, 7), c[2]);
            check.due("byte 7 of 1" + call, x.sector(1, 7), c[3]);
            check.due("about(0)" + call, x.about(0), 0);
            check.due("about(2)" + call, x.about(2), -1);
            x.start();
            check.due("about(6)" + call, x.about(6), c[4]);
        }
    }

    private static void cutsByBytes() {
        check.about("promise 7, bytes of a torn write");
        int[] before = Arrays.copyOf(Forge.row(0, 1, 63, -1, 62), 64);
        int[] torn = Arrays.copyOf(Forge.row(0, 1, 63, -1, 62, 61), 64);
        for (int tear : new int[] {0, 1, 2, 31, 32, 33, 40, 63, 64, 300}) {
            BuildDisk x = new BuildDisk(4);
            x.start();
            x.sync();
            x.row(63, -1);
            x.asks(0, 62);
            x.asks(0, 61);
            x.row(60, -2);
            x.cut(2, tear);
            for (int i = 0; i < 64; i++) {
                check.dueByte(x, 2, i, i < tear ? torn[i] : before[i]);
            }
        }
        BuildDisk x = new BuildDisk(4);
        x.start();
        x.row(63, -1);
        x.cut(0, 0);
        check.due("row that waited is lost", x.start(), 0);
    }

    private static void cutLimits() {
        check.about("promise 7, when not running");
        BuildDisk x = new BuildDisk(4);
        x.cut(5, 5);
        check.due("about(0)", x.about(0), 0);
        check.dueByte(x, 0, 0, 0);
        x.start();
        x.sync();
        x.row(5, 1);
        x.cut(0, 2);
        x.cut(9, 512);
        check.dueByte(x, 2, 0, 1);
        check.dueByte(x, 2, 1, 5);
        check.dueByte(x, 2, 23, 0);
        check.due("start()", x.start(), 0);
        check.due("about(2)", x.about(2), 2);
    }

    /** The sum of 1 and 27 0s by 0 is 0, so that one torn byte is a row of key 0; so it is with 2 by 1. */
    private static void cutThatMakesARow() {
        check.about("promise 7, a torn byte that is a row by its sum");
        BuildDisk x = new BuildDisk(4);
        x.start();
        x.sync();
        x.row(5, 77);
        x.cut(0, 1);
        check.due("start()", x.start(), 1);
        check.due("digest(5)", x.digest(5), 0);
        check.due("sure(0)", x.sure(0), true);
        x.sync();
        x.lock(6);
        x.cut(0, 33);
        check.due("start()", x.start(), 2);
        check.due("about(4)", x.about(4), 0);
    }

    private static void cutForgets() {
        check.about("promise 7, what is gone");
        BuildDisk x = new BuildDisk(4);
        x.start();
        for (int i = 0; i < 17; i++) {
            x.row(i, i);
        }
        x.compact(3);
        check.due("about(3)", x.about(3), 1);
        check.due("about(7)", x.about(7), 2);
        x.cut(99, 0);
        check.due("digest(16)", x.digest(16), 0);
        check.due("start()", x.start(), 16);
        check.due("about(3)", x.about(3), 0);
        check.due("about(7)", x.about(7), -1);
        check.due("sure(16)", x.sure(16), false);
        check.due("about(2)", x.about(2), 2);
        check.due("compact(1)", x.compact(1), 1);
        check.due("about(7)", x.about(7), 0);
        check.due("about(2)", x.about(2), 3);
    }

    private static void sectors() {
        check.about("promise 11");
        BuildDisk x = new BuildDisk(5);
        check.dueByte(x, 0, 0, 0);
        check.dueByte(x, 4, 511, 0);
        int[] none = {-1, 5, 40, Integer.MAX_VALUE, Integer.MIN_VALUE, 1 << 23};
        for (int n : none) {
            check.dueNoByte(x, n, 0);
        }
        for (int i : new int[] {-1, 512, 1024, -512, Integer.MAX_VALUE, Integer.MIN_VALUE}) {
            check.dueNoByte(x, 0, i);
            check.dueNoByte(x, 1, i);
            check.dueNoByte(x, 4, i);
        }
        x.poke(3 * 512 + 77, 200);
        check.due("sector(3, 77)", x.sector(3, 77), -56);
        check.due("sector(3, 76)", x.sector(3, 76), 0);
        x.start();
        check.dueNoByte(x, 5, 0);
        check.dueByte(x, 1, 3, 0);
        x.sync();
        check.dueByte(x, 1, 3, 1);
    }

    private static void pokes() {
        check.about("promise 12");
        BuildDisk x = new BuildDisk(4);
        int[][] calls = {{0, 1, 1}, {2047, 255, 1}, {2048, 1, -2}, {-1, 1, -2}, {0, 0, -2}, {0, 256, -2}, {0, -1, -2},
            {Integer.MAX_VALUE, 1, -2}, {Integer.MIN_VALUE, 1, -2}, {5, Integer.MAX_VALUE, -2}, {5, Integer.MIN_VALUE, -2},
            {5, 257, -2}, {700, 128, 1}};
        for (int[] c : calls) {
            check.due("poke(" + c[0] + ", " + c[1] + ")", x.poke(c[0], c[1]), c[2]);
        }
        check.dueByte(x, 0, 0, 1);
        check.dueByte(x, 3, 511, 255);
        check.dueByte(x, 0, 5, 0);
        check.dueByte(x, 1, 188, 128);
        check.due("poke(2047, 15)", x.poke(2047, 15), 1);
        check.dueByte(x, 3, 511, 240);
        BuildDisk y = new BuildDisk(40);
        check.due("poke(20479, 1)", y.poke(20479, 1), 1);
        check.due("poke(20480, 1)", y.poke(20480, 1), -2);
    }

    private static void pokeAndMind() {
        check.about("promise 12, what it has in mind stays");
        BuildDisk x = new BuildDisk(4);
        x.start();
        x.row(1, 100);
        x.asks(0, 9);
        x.lock(3);
        x.row(9, 5);
        x.sync();
        for (int i = 0; i < 96; i += 5) {
            x.poke(1024 + i, 255);
        }
        x.poke(0, 1);
        x.poke(520, 1);
        check.due("digest(1)", x.digest(1), 100);
        check.due("asked(1, 0)", x.asked(1, 0), 9);
        check.due("about(4)", x.about(4), 3);
        check.due("about(5)", x.about(5), 0);
        check.due("about(6)", x.about(6), 2);
        check.due("compact(1000)", x.compact(1000), 5);
        x.sync();
        Forge.dueRow(check, x, 1536, Forge.row(0, 1, 1, 100, 9));
        Forge.dueRow(check, x, 1536 + 32, Forge.row(1, 2, 3, 0));
        Forge.dueRow(check, x, 1536 + 64, Forge.row(2, 1, 9, 5));
    }

    private static void pokeBeneathWaitingWrites() {
        check.about("promise 12, a sector waits with what it will have");
        BuildDisk x = new BuildDisk(4);
        x.start();
        x.sync();
        x.row(1, 1);
        x.poke(1024 + 400, 7);
        check.dueByte(x, 2, 400, 7);
        x.row(2, 2);
        x.sync();
        check.dueByte(x, 2, 400, 0);
        x.poke(1024 + 400, 7);
        x.row(3, 3);
        check.dueByte(x, 2, 400, 7);
        x.poke(1024 + 400, 1);
        x.sync();
        check.dueByte(x, 2, 400, 7);
        Forge.dueRow(check, x, 1024 + 64, Forge.row(2, 1, 3, 3));
    }
}
