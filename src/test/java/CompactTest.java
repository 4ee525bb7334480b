/** Promise 6 (compact). */
public final class CompactTest {
    private static final Check check = new Check();

    public static void main(String[] args) {
        wrongInputs();
        steps();
        writesOfEachStep();
        whatIsCopied();
        wrongPlacesBehind();
        besideRunning();
        rowsKeptTwice();
        backAndForth();
        cutsAnywhere();
        fullAreas();
        pokedOtherArea();
        check.end();
    }

    private static void wrongInputs() {
        check.about("promise 6, wrong inputs");
        BuildDisk x = new BuildDisk(4);
        int[] wrong = {0, -1, 1001, Integer.MAX_VALUE, Integer.MIN_VALUE};
        for (int n : wrong) {
            check.due("compact(" + n + ") when not running", x.compact(n), -2);
        }
        check.due("compact(1)", x.compact(1), -3);
        check.due("compact(1000)", x.compact(1000), -3);
        x.start();
        for (int n : wrong) {
            check.due("compact(" + n + ")", x.compact(n), -2);
        }
        check.due("about(7)", x.about(7), -1);
        check.due("compact(1000)", x.compact(1000), 2);
    }

    private static void steps() {
        check.about("promise 6, steps");
        BuildDisk x = Forge.running(6);
        x.row(1, 1);
        x.row(2, 2);
        check.due("about(7)", x.about(7), -1);
        for (int i = 0; i < 3; i++) {
            check.due("compact(1)", x.compact(1), 1);
            check.due("about(7)", x.about(7), i);
            check.due("about(5)", x.about(5), 0);
            check.due("about(6)", x.about(6), 2);
        }
        check.due("compact(2)", x.compact(2), 1);
        check.due("about(7)", x.about(7), -1);
        check.due("about(5)", x.about(5), 1);
        check.due("about(6)", x.about(6), 4);
        check.due("compact(4)", x.compact(4), 4);
        check.due("about(5)", x.about(5), 0);
        check.due("compact(3)", x.compact(3), 3);
        check.due("about(7)", x.about(7), 2);
        check.due("compact(1000)", x.compact(1000), 1);
        check.due("about(5)", x.about(5), 1);
        check.due("about(6)", x.about(6), 8);
    }

    private static void writesOfEachStep() {
        check.about("promise 6, writes");
        BuildDisk x = Forge.running(8);
        x.poke(5 * 512 + 3, 9);
        x.poke(6 * 512 + 511, 9);
        x.poke(7 * 512, 9);
        x.row(1, 1);
        x.row(1, 2);
        x.row(2, 3);
        x.asks(2, 1);
        x.sync();
        x.compact(1);
        check.due("about(2) cleared", x.about(2), 3);
        check.dueByte(x, 5, 3, 9);
        x.compact(1);
        check.due("about(2) not copied", x.about(2), 3);
        x.compact(1);
        check.due("about(2) copied", x.about(2), 4);
        check.due("sync()", x.sync(), 4);
        check.dueByte(x, 5, 3, 0);
        check.dueByte(x, 6, 511, 0);
        check.dueByte(x, 7, 0, 0);
        Forge.dueRow(check, x, 5 * 512, Forge.row(0, 1, 1, 2));
        x.compact(1);
        check.due("sync()", x.sync(), 1);
        Forge.dueRow(check, x, 5 * 512, Forge.row(0, 1, 1, 2));
        Forge.dueRow(check, x, 5 * 512 + 32, Forge.row(1, 1, 2, 3, 1));
        check.dueByte(x, 5, 64, 0);
        x.compact(1);
        check.due("about(2) ended", x.about(2), 2);
        x.cut(1, 0);
        Forge.dueHead(check, x, 1, Forge.head(1, 3, 1));
        Forge.dueHead(check, x, 0, Forge.head(1, 2, 0));
        check.due("start()", x.start(), 2);
        check.due("about(5)", x.about(5), 1);
        check.due("about(6)", x.about(6), 5);
    }

    private static void whatIsCopied() {
        check.about("promise 6, what is copied");
        BuildDisk x = Forge.running(6);
        x.row(1, 1);
        x.lock(1);
        x.row(2, 2);
        x.dead(1);
        x.row(1, 3);
        x.lock(2);
        x.row(3, 4);
        x.asks(6, 2);
        check.due("compact(1000)", x.compact(1000), 9);
        check.due("about(1)", x.about(1), 4);
        check.due("about(4)", x.about(4), 2);
        check.due("digest(1)", x.digest(1), 3);
        check.due("digest(2)", x.digest(2), 2);
        check.due("digest(3)", x.digest(3), 4);
        check.due("sure(3)", x.sure(3), true);
        check.due("row(4, 4)", x.row(4, 4), 4);
        x.dead(2);
        check.due("compact(1000)", x.compact(1000), 8);
        check.due("about(1)", x.about(1), 5);
        check.due("about(4)", x.about(4), -1);
        x.sync();
        Forge.dueRow(check, x, 1024, Forge.row(0, 1, 2, 2));
        Forge.dueRow(check, x, 1024 + 32, Forge.row(1, 1, 1, 3));
        Forge.dueRow(check, x, 1024 + 64, Forge.row(2, 1, 3, 4, 2));
        Forge.dueRow(check, x, 1024 + 96, Forge.row(3, 1, 4, 4));
        Forge.dueRow(check, x, 1024 + 128, Forge.row(4, 3, 2, 0));
    }

    private static void wrongPlacesBehind() {
        check.about("promise 6, wrong places");
        BuildDisk x = Forge.running(6);
        x.row(1, 1);
        x.lock(5);
        x.row(2, 2);
        x.row(3, 3);
        x.row(4, 4);
        x.sync();
        x.poke(1024 + 64 + 1, 1);
        x.cut(0, 0);
        check.due("start()", x.start(), 4);
        check.due("sure(1)", x.sure(1), false);
        check.due("about(4)", x.about(4), 5);
        check.due("compact(1000)", x.compact(1000), 7);
        check.due("about(1)", x.about(1), 3);
        check.due("about(4)", x.about(4), 5);
        check.due("digest(1)", x.digest(1), 0);
        check.due("digest(3)", x.digest(3), 3);
        check.due("digest(4)", x.digest(4), 4);
        check.due("wrong()", x.wrong(), 1);
        check.due("row(1, 9)", x.row(1, 9), 3);
        check.due("sure(1)", x.sure(1), true);
        check.due("sure(3)", x.sure(3), true);
        x.sync();
        x.cut(0, 0);
        check.due("start()", x.start(), 4);
        check.due("wrong()", x.wrong(), 0);
    }

    private static void besideRunning() {
        check.about("promise 6, beside all else");
        BuildDisk x = Forge.running(6);
        x.row(1, 1);
        x.row(2, 2);
        x.compact(3);
        check.due("about(7)", x.about(7), 2);
        check.due("row(3, 3)", x.row(3, 3), 2);
        check.due("asks(2, 1)", x.asks(2, 1), 1);
        check.due("lock(1)", x.lock(1), 1);
        check.due("compact(1)", x.compact(1), 1);
        check.due("row(4, 4)", x.row(4, 4), 4);
        check.due("about(7)", x.about(7), 3);
        check.due("digest(2)", x.digest(2), 2);
        check.due("sync()", x.sync() > 0, true);
        check.due("compact(1000)", x.compact(1000), 3);
        check.due("about(1)", x.about(1), 5);
        check.due("sure(3)", x.sure(3), true);
        check.due("digest(4)", x.digest(4), 4);
        check.due("about(4)", x.about(4), 1);
    }

    private static void rowsKeptTwice() {
        check.about("promise 6, a key kept anew when taken");
        BuildDisk x = Forge.running(6);
        x.row(1, 1);
        x.lock(1);
        x.compact(3);
        x.row(1, 2);
        x.dead(1);
        check.due("compact(1000)", x.compact(1000), 3);
        check.due("about(1)", x.about(1), 4);
        check.due("digest(1)", x.digest(1), 2);
        check.due("about(4)", x.about(4), -1);
        x.sync();
        Forge.dueRow(check, x, 2048, Forge.row(0, 1, 1, 1));
        Forge.dueRow(check, x, 2048 + 32, Forge.row(1, 2, 1, 0));
        Forge.dueRow(check, x, 2048 + 64, Forge.row(2, 1, 1, 2));
        Forge.dueRow(check, x, 2048 + 96, Forge.row(3, 3, 1, 0));
        check.due("compact(1000)", x.compact(1000), 6);
        check.due("about(1)", x.about(1), 2);
    }

    private static void backAndForth() {
        check.about("promise 6, back and forth");
        BuildDisk x = Forge.running(4);
        for (int i = 0; i < 30; i++) {
            x.row(i % 3, i);
            x.compact(1000);
            check.due("about(1)", x.about(1), Math.min(i + 1, 3));
            check.due("about(5)", x.about(5), (i + 1) % 2);
            check.due("about(6)", x.about(6), 4 + 2 * i);
        }
        check.due("digest(0)", x.digest(0), 27);
        check.due("digest(1)", x.digest(1), 28);
        check.due("digest(2)", x.digest(2), 29);
    }

    /** Wherever it is cut, all synced rows that counted are there at the next start. */
    private static void cutsAnywhere() {
        check.about("promise 6, cut anywhere");
        for (int steps = 1; steps <= 8; steps++) {
            for (int keep = 0; keep < 10; keep++) {
                for (int tear = 0; tear <= 512; tear += 64) {
                    BuildDisk x = Forge.running(4);
                    for (int i = 0; i < 6; i++) {
                        x.row(i % 4, 100 + i);
                    }
                    x.sync();
                    x.compact(steps);
                    x.cut(keep, tear);
                    check.due("start() runs", x.start() >= 4, true);
                    check.due("wrong()", x.wrong(), 0);
                    check.due("digest(0)", x.digest(0), 104);
                    check.due("digest(1)", x.digest(1), 105);
                    check.due("digest(2)", x.digest(2), 102);
                    check.due("digest(3)", x.digest(3), 103);
                }
            }
        }
    }

    private static void fullAreas() {
        check.about("promise 6, a full area");
        BuildDisk x = Forge.running(10);
        for (int i = 0; i < 64; i++) {
            x.row(i, i);
        }
        check.due("row(5, 5)", x.row(5, 5), -4);
        check.due("lock(5)", x.lock(5), -4);
        check.due("compact(65)", x.compact(65), 65);
        check.due("about(7)", x.about(7), 64);
        check.due("compact(1)", x.compact(1), 1);
        check.due("about(1)", x.about(1), 64);
        check.due("row(5, 6)", x.row(5, 6), -4);
        check.due("digest(63)", x.digest(63), 63);
        check.due("about(3)", x.about(3), 1);
        x.sync();
        Forge.dueRow(check, x, 6 * 512 + 63 * 32, Forge.row(63, 1, 63, 63));
        BuildDisk y = Forge.running(40);
        for (int i = 0; i < 304; i++) {
            y.row(i % 64, i);
        }
        check.due("row(0, 0)", y.row(0, 0), -4);
        check.due("compact(1000)", y.compact(1000), 306);
        check.due("about(1)", y.about(1), 64);
        check.due("digest(47)", y.digest(47), 303);
        check.due("digest(48)", y.digest(48), 240);
    }

    private static void pokedOtherArea() {
        check.about("promise 6, a poke between its steps");
        BuildDisk x = Forge.running(4);
        x.row(1, 1);
        x.row(2, 2);
        x.compact(1);
        x.sync();
        x.poke(1536 + 480, 5);
        x.compact(1);
        x.poke(1536 + 481, 6);
        x.sync();
        check.dueByte(x, 3, 480, 5);
        check.dueByte(x, 3, 481, 0);
        x.poke(1536, 1);
        x.compact(1000);
        x.sync();
        check.dueByte(x, 3, 0, 0);
        check.due("digest(1)", x.digest(1), 1);
        x.cut(0, 0);
        check.due("start()", x.start(), 1);
        check.due("wrong()", x.wrong(), 1);
        check.due("digest(1)", x.digest(1), 0);
    }
}
