import java.util.ArrayList;
import java.util.List;

/**
 * Whether a call leaves an object as it was: two objects are used alike but for this call, and what can be
 * seen of them, then and later, is compared. Each view has two objects of its own, as one has but 512 calls.
 */
final class Same {
    interface Make {
        BuildDisk make();
    }

    interface Call {
        long on(BuildDisk x);
    }

    private interface View {
        void of(BuildDisk x, List<Long> seen);
    }

    private Same() {
    }

    /** The call answers this and nothing happens. */
    static void due(Check check, Make make, String call, Call refused, long want) {
        BuildDisk first = make.make();
        check.due(call, refused.on(first), want);
        compare(check, make, call, refused, "what is asked", Same::answers);
        compare(check, make, call, refused, "asked", Same::askedKeys);
        compare(check, make, call, refused, "asks and compaction later", Same::laterSteps);
        compare(check, make, call, refused, "a later cut", Same::laterCut);
        compare(check, make, call, refused, "a later start", Same::laterStart);
        compare(check, make, call, refused, "a later start without a head", Same::laterStartAnew);
        int halves = 2 * (2 + first.about(8) / 8);
        for (int n = 0; n < halves; n++) {
            int half = n;
            compare(check, make, call, refused, "half sector " + n, (x, seen) -> bytes(x, half, seen));
            compare(check, make, call, refused, "half sector " + n + " with all that waited", (x, seen) -> {
                x.cut(64, 0);
                bytes(x, half, seen);
            });
        }
    }

    private static void compare(Check check, Make make, String call, Call refused, String what, View view) {
        BuildDisk plain = make.make();
        BuildDisk used = make.make();
        refused.on(used);
        List<Long> before = new ArrayList<>();
        List<Long> behind = new ArrayList<>();
        view.of(plain, before);
        view.of(used, behind);
        int different = 0;
        for (int i = 0; i < before.size(); i++) {
            if (!before.get(i).equals(behind.get(i))) {
                different++;
            }
        }
        check.due("behind " + call + " differences of " + what, different, 0);
    }

    private static void abouts(BuildDisk x, List<Long> seen) {
        for (int what = 0; what <= 8; what++) {
            seen.add((long) x.about(what));
        }
        seen.add((long) x.wrong());
    }

    private static void answers(BuildDisk x, List<Long> seen) {
        abouts(x, seen);
        for (int key = 0; key < 64; key++) {
            seen.add(x.digest(key));
            seen.add(x.sure(key) ? 1L : 0L);
        }
    }

    private static void askedKeys(BuildDisk x, List<Long> seen) {
        for (int key = 0; key < 64; key++) {
            for (int i = 0; i < 6; i++) {
                seen.add((long) x.asked(key, i));
            }
        }
    }

    private static void bytes(BuildDisk x, int half, List<Long> seen) {
        for (int i = 0; i < 256; i++) {
            seen.add((long) x.sector(half / 2, half % 2 * 256 + i));
        }
    }

    private static void laterSteps(BuildDisk x, List<Long> seen) {
        seen.add((long) x.asks(x.about(1) - 1, 5));
        seen.add((long) x.compact(1));
        seen.add((long) x.asks(x.about(1) - 1, 6));
        seen.add((long) x.row(7, 7));
        seen.add((long) x.lock(2));
        seen.add((long) x.dead(3));
        abouts(x, seen);
        seen.add((long) x.compact(1000));
        abouts(x, seen);
        seen.add((long) x.sync());
        heads(x, seen);
    }

    private static void laterCut(BuildDisk x, List<Long> seen) {
        x.cut(1, 72);
        seen.add((long) x.start());
        answers(x, seen);
    }

    private static void laterStart(BuildDisk x, List<Long> seen) {
        seen.add((long) x.start());
        seen.add((long) x.sync());
        abouts(x, seen);
        heads(x, seen);
        x.edition(9);
        x.cut(0, 0);
        seen.add((long) x.start());
        abouts(x, seen);
    }

    /** The edition that is set is seen in the heads of a start that finds none. */
    private static void laterStartAnew(BuildDisk x, List<Long> seen) {
        x.cut(0, 0);
        x.poke(100, 1);
        x.poke(512 + 100, 1);
        seen.add((long) x.start());
        seen.add((long) x.sync());
        abouts(x, seen);
        heads(x, seen);
    }

    private static void heads(BuildDisk x, List<Long> seen) {
        for (int i = 0; i < 9; i++) {
            seen.add((long) x.sector(0, i));
            seen.add((long) x.sector(1, i));
        }
    }
}
