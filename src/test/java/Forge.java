import java.util.Arrays;

/** Makes bytes of rows and heads by the document's words alone, brings them onto a disk by pokes, and looks for them there. */
final class Forge {
    private Forge() {
    }

    /** A new object, started, with nothing that waits. */
    static BuildDisk running(int sectors) {
        BuildDisk x = new BuildDisk(sectors);
        x.start();
        x.sync();
        return x;
    }

    /** A new object that is not running, with this head alone on its disk. */
    static BuildDisk withHead(int sectors, long edition, long sequence, int area) {
        BuildDisk x = new BuildDisk(sectors);
        put(x, (int) (sequence % 2) * 512, head(edition, sequence, area));
        return x;
    }

    /** Rows of a key, with their places as digests, until there is no place. */
    static void fill(BuildDisk x, int key) {
        int places = x.about(8);
        for (int i = x.about(1); i < places; i++) {
            x.row(key, i);
        }
    }

    static int sum(int[] bytes, int count, int by) {
        long s = (by + 1L) & 0xFFFFFFFFL;
        for (int i = 0; i < count; i++) {
            long mixed = s ^ bytes[i];
            long turned = ((mixed << 5) | (mixed >> 27)) & 0xFFFFFFFFL;
            s = (turned * 0x85EBCA77L) & 0xFFFFFFFFL;
        }
        return (int) s;
    }

    static void number(int[] bytes, int at, int count, long number) {
        for (int i = count - 1; i >= 0; i--) {
            bytes[at + i] = (int) (number & 255);
            number >>= 8;
        }
    }

    static int[] head(long edition, long sequence, int area) {
        int[] bytes = new int[512];
        number(bytes, 0, 4, edition);
        number(bytes, 4, 4, sequence);
        bytes[8] = area;
        number(bytes, 508, 4, sum(bytes, 508, (int) sequence));
        return bytes;
    }

    static int[] row(int place, int kind, int name, long digest, int... asks) {
        int[] bytes = new int[32];
        bytes[0] = kind;
        bytes[1] = name;
        bytes[2] = asks.length;
        for (int i = 0; i < asks.length; i++) {
            bytes[3 + i] = asks[i];
        }
        number(bytes, 16, 8, digest);
        return summed(bytes, place);
    }

    /** The bytes of a row with the sum of their first 28. */
    static int[] summed(int[] row, int place) {
        int[] bytes = Arrays.copyOf(row, 32);
        number(bytes, 28, 4, sum(bytes, 28, place));
        return bytes;
    }

    /** Pokes bytes from byte `at` of the disk on, where these old ones are, to new ones. */
    static void change(BuildDisk x, int at, int[] old, int[] bytes) {
        for (int i = 0; i < bytes.length; i++) {
            int mask = old[i] ^ bytes[i];
            if (mask != 0) {
                x.poke(at + i, mask);
            }
        }
    }

    /** Likewise where the disk has 0s. */
    static void put(BuildDisk x, int at, int[] bytes) {
        change(x, at, new int[bytes.length], bytes);
    }

    static void dueRow(Check check, BuildDisk x, int at, int[] want) {
        for (int i = 0; i < 32; i++) {
            check.dueByte(x, (at + i) / 512, (at + i) % 512, want[i]);
        }
    }

    /** Looks at the bytes that tell something, and at some of the 0s: an object has but 512 calls. */
    static void dueHead(Check check, BuildDisk x, int n, int[] want) {
        for (int i = 0; i < 12; i++) {
            check.dueByte(x, n, i, want[i]);
        }
        for (int i = 12; i < 500; i += 61) {
            check.dueByte(x, n, i, want[i]);
        }
        for (int i = 500; i < 512; i++) {
            check.dueByte(x, n, i, want[i]);
        }
    }
}
