import java.util.ArrayList;
import java.util.Arrays;
import java.util.HashMap;
import java.util.List;
import java.util.Map;

/**
 * The document once more, word by word and without any thought of cost: nothing is kept that can be
 * looked for, so that it shares no index with the class it is compared with.
 */
final class Model {
    private record Row(int kind, int name, long digest, List<Integer> asks) {
        int[] bytes(int place) {
            return Forge.row(place, kind, name, digest, asks.stream().mapToInt(Integer::intValue).toArray());
        }
    }

    private record Write(int sector, int[] content) {
    }

    private final int[][] disk;
    private final List<Write> queue = new ArrayList<>();
    /** The rows up to END; null where the place is wrong. */
    private List<Row> rows = new ArrayList<>();
    private final Map<Integer, Long> unkept = new HashMap<>();
    private boolean running = false;
    private int area;
    private int sequence;
    private int edition = 1;
    private int editionOfStart;
    private int wrongAtStart = 0;
    /** Of each place, whether its row was there at the latest sync or start, or was copied. */
    private List<Boolean> old = new ArrayList<>();
    private List<Row> copies = null;
    private int taken;

    Model(int sectors) {
        disk = new int[sectors < 4 ? 4 : sectors > 40 ? 40 : sectors][512];
    }

    private int areaSectors() {
        return (disk.length - 2) / 2;
    }

    private void waits(int sector, int[] content) {
        if (queue.size() + 1 > 64) {
            comeAll();
        }
        queue.add(new Write(sector, content));
    }

    private int comeAll() {
        int count = queue.size();
        for (Write w : queue) {
            disk[w.sector] = w.content.clone();
        }
        queue.clear();
        return count;
    }

    private void rowWaits(Row row, int inArea, int place) {
        int sector = 2 + inArea * areaSectors() + place / 16;
        int[] content = disk[sector].clone();
        for (Write w : queue) {
            if (w.sector == sector) {
                content = w.content.clone();
            }
        }
        System.arraycopy(row.bytes(place), 0, content, place % 16 * 32, 32);
        waits(sector, content);
    }

    private void zerosWait(int inArea) {
        for (int i = 0; i < areaSectors(); i++) {
            waits(2 + inArea * areaSectors() + i, new int[512]);
        }
    }

    private void headsChange() {
        waits((sequence + 1) % 2, Forge.head(editionOfStart, sequence + 1, area));
        waits((sequence + 2) % 2, Forge.head(editionOfStart, sequence + 2, area));
        sequence += 2;
    }

    private static long number(int[] bytes, int at, int count) {
        long n = 0;
        for (int i = 0; i < count; i++) {
            n = n * 256 + bytes[at + i];
        }
        return n;
    }

    private boolean isHead(int sector) {
        int[] b = disk[sector];
        long seq = number(b, 4, 4);
        return (int) number(b, 508, 4) == Forge.sum(b, 508, (int) seq) && seq < 2000000000L && seq % 2 == sector && b[8] < 2;
    }

    private Row rowOnDisk(int place) {
        int[] sector = disk[2 + area * areaSectors() + place / 16];
        int[] b = Arrays.copyOfRange(sector, place % 16 * 32, place % 16 * 32 + 32);
        if (b[0] < 1 || b[0] > 3 || b[1] >= (b[0] == 1 ? 64 : 8) || b[2] > (b[0] == 1 ? 6 : 0)) {
            return null;
        }
        List<Integer> asks = new ArrayList<>();
        for (int i = 0; i < b[2]; i++) {
            if (b[3 + i] >= 64) {
                return null;
            }
            asks.add(b[3 + i]);
        }
        if ((int) number(b, 28, 4) != Forge.sum(b, 28, place)) {
            return null;
        }
        return new Row(b[0], b[1], b[0] == 1 ? number(b, 16, 8) : 0, asks);
    }

    int start() {
        if (running) {
            return -3;
        }
        int head = -1;
        for (int sector = 0; sector < 2; sector++) {
            if (isHead(sector) && (head < 0 || number(disk[sector], 4, 4) > number(disk[head], 4, 4))) {
                head = sector;
            }
        }
        rows = new ArrayList<>();
        if (head >= 0) {
            long e = number(disk[head], 0, 4);
            if (e != edition && e != edition - 1) {
                return -1;
            }
            sequence = (int) number(disk[head], 4, 4);
            area = disk[head][8];
            for (int place = 0; place < areaSectors() * 16; place++) {
                rows.add(rowOnDisk(place));
            }
            while (!rows.isEmpty() && rows.get(rows.size() - 1) == null) {
                rows.remove(rows.size() - 1);
            }
        } else {
            sequence = 0;
            area = 0;
            zerosWait(0);
        }
        editionOfStart = edition;
        headsChange();
        running = true;
        wrongAtStart = 0;
        old = new ArrayList<>();
        for (Row row : rows) {
            wrongAtStart += row == null ? 1 : 0;
            old.add(true);
        }
        return rows.size() - wrongAtStart;
    }

    private int keep(Row row) {
        if (rows.size() == areaSectors() * 16) {
            return -4;
        }
        rows.add(row);
        old.add(false);
        rowWaits(row, area, rows.size() - 1);
        return rows.size() - 1;
    }

    int row(int key, long digest) {
        if (key < 0 || key > 63) {
            return -2;
        }
        if (!running) {
            return -3;
        }
        int place = keep(new Row(1, key, digest, new ArrayList<>()));
        if (place < 0) {
            unkept.put(key, digest);
        } else {
            unkept.remove(key);
        }
        return place;
    }

    int asks(int place, int other) {
        if (!running || place < 0 || place >= rows.size() || rows.get(place) == null || rows.get(place).kind != 1) {
            return -1;
        }
        if (other < 0 || other > 63) {
            return -2;
        }
        if (place + 1 != rows.size() || old.get(place) || copies != null && place < taken) {
            return -3;
        }
        Row row = rows.get(place);
        if (row.asks.size() == 6) {
            return -4;
        }
        row.asks.add(other);
        rowWaits(row, area, place);
        return row.asks.size();
    }

    int sync() {
        if (!running) {
            return -3;
        }
        old.replaceAll(was -> true);
        return comeAll();
    }

    int compact(int n) {
        if (n < 1 || n > 1000) {
            return -2;
        }
        if (!running) {
            return -3;
        }
        for (int done = 1; done <= n; done++) {
            if (copies == null) {
                zerosWait(1 - area);
                copies = new ArrayList<>();
                taken = 0;
            } else if (taken < rows.size()) {
                take();
            } else {
                area = 1 - area;
                rows = copies;
                copies = null;
                old = new ArrayList<>();
                rows.forEach(row -> old.add(true));
                headsChange();
                return done;
            }
        }
        return n;
    }

    private void take() {
        Row row = rows.get(taken);
        boolean counts = row != null
            && (row.kind == 1 ? latest(row.name) == taken && !wrongBehind(taken) : lockRow() == taken);
        if (counts) {
            copies.add(row);
            rowWaits(row, 1 - area, copies.size() - 1);
        }
        taken++;
    }

    void cut(int keep, int tear) {
        int count = 0;
        for (Write w : queue) {
            int bytes = count < keep ? 512 : count == Math.max(keep, 0) ? Math.max(0, Math.min(512, tear)) : 0;
            System.arraycopy(w.content, 0, disk[w.sector], 0, bytes);
            count++;
        }
        queue.clear();
        running = false;
        unkept.clear();
        copies = null;
    }

    private int latest(int key) {
        int place = -1;
        for (int i = 0; i < rows.size(); i++) {
            if (rows.get(i) != null && rows.get(i).kind == 1 && rows.get(i).name == key) {
                place = i;
            }
        }
        return place;
    }

    private int lockRow() {
        int place = -1;
        for (int i = 0; i < rows.size(); i++) {
            if (rows.get(i) != null && rows.get(i).kind != 1) {
                place = i;
            }
        }
        return place;
    }

    private boolean wrongBehind(int place) {
        return rows.subList(place, rows.size()).contains(null);
    }

    private int holder() {
        int place = lockRow();
        return place >= 0 && rows.get(place).kind == 2 ? rows.get(place).name : -1;
    }

    long digest(int key) {
        if (!running) {
            return 0;
        }
        if (unkept.containsKey(key)) {
            return unkept.get(key);
        }
        return latest(key) < 0 ? 0 : rows.get(latest(key)).digest;
    }

    int asked(int key, int i) {
        if (!running || unkept.containsKey(key) || latest(key) < 0) {
            return -1;
        }
        List<Integer> asks = rows.get(latest(key)).asks;
        return i >= 0 && i < asks.size() ? asks.get(i) : -1;
    }

    boolean sure(int key) {
        if (!running) {
            return false;
        }
        if (unkept.containsKey(key)) {
            return true;
        }
        int place = latest(key);
        if (place < 0 || wrongBehind(place)) {
            return false;
        }
        for (int other : rows.get(place).asks) {
            if (unkept.containsKey(other) || latest(other) < 0 || latest(other) >= place) {
                return false;
            }
        }
        return true;
    }

    /** 1000 where it throws. */
    int sector(int n, int i) {
        return n < 0 || n >= disk.length || i < 0 || i > 511 ? 1000 : (byte) disk[n][i];
    }

    int poke(int place, int mask) {
        if (place < 0 || place >= disk.length * 512 || mask < 1 || mask > 255) {
            return -2;
        }
        disk[place / 512][place % 512] ^= mask;
        return 1;
    }

    int wrong() {
        return wrongAtStart;
    }

    int lock(int user) {
        if (user < 0 || user > 7) {
            return -2;
        }
        if (!running) {
            return -3;
        }
        if (holder() >= 0) {
            return holder() == user ? 1 : 0;
        }
        return keep(new Row(2, user, 0, new ArrayList<>())) < 0 ? -4 : 1;
    }

    int dead(int user) {
        if (user < 0 || user > 7) {
            return -2;
        }
        if (!running) {
            return -3;
        }
        if (holder() != user) {
            return 0;
        }
        return keep(new Row(3, user, 0, new ArrayList<>())) < 0 ? -4 : 1;
    }

    int edition(int e) {
        if (e < 1 || e > 200) {
            return -2;
        }
        edition = e;
        return 1;
    }

    int about(int what) {
        if (what == 0) {
            return running ? 1 : 0;
        }
        if (what == 8) {
            return areaSectors() * 16;
        }
        if (!running || what < 0 || what > 8) {
            return -1;
        }
        int[] answers = {1, rows.size(), queue.size(), unkept.size(), holder(), area, sequence, copies == null ? -1 : taken};
        return answers[what];
    }
}
