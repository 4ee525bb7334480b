/**
 * Kept rows of a build house on a disk of sectors. The document says what each call answers;
 * README.md says how to use the class.
 *
 * All arrays are made by the constructor and used again, so no later call makes an object
 * (but for the exception of sector).
 */
public final class BuildDisk {
    public static final int NONE = -1;

    private static final int FEWEST_SECTORS = 4;
    private static final int MOST_SECTORS = 40;
    private static final int SECTOR_BYTES = 512;
    private static final int HEAD_SECTORS = 2;
    private static final int SECTOR_PLACES = 16;
    private static final int ROW_BYTES = 32;

    private static final int KEYS = 64;
    private static final int USERS = 8;
    private static final int MOST_ASKS = 6;
    private static final int MOST_STEPS = 1000;
    private static final int MOST_EDITION = 200;

    private static final int KIND_KEY = 1;
    private static final int KIND_LOCK = 2;
    private static final int KIND_FREED = 3;

    private static final int OTHER_EDITION = -1;
    private static final int NO_ROW = -1;
    private static final int NO_SUCH = -2;
    private static final int NOT_NOW = -3;
    private static final int NO_PLACE = -4;

    private final Disk disk;
    private final Table table;
    private final Unkept unkept;
    private final int areaSectors;

    private boolean running;
    private int area;
    private int sequence;
    /** The edition of the latest start: heads are written with it even when another is set for the next one. */
    private int goingEdition;
    private int nextEdition;
    private int wrongAtStart;
    /** Rows at places below this may not be changed any more: synced, read at a start, or copied. */
    private int fixedEnd;

    /** How many places compaction has taken, NONE if none is under way. */
    private int taken;
    private int copied;
    private final int[] copiedFrom;

    public BuildDisk(int sectors) {
        int count = Math.min(Math.max(sectors, FEWEST_SECTORS), MOST_SECTORS);
        areaSectors = (count - HEAD_SECTORS) / 2;
        int places = areaSectors * SECTOR_PLACES;
        disk = new Disk(count);
        table = new Table(places);
        unkept = new Unkept();
        copiedFrom = new int[places];
        taken = NONE;
        nextEdition = 1;
    }

    public int start() {
        if (running) {
            return NOT_NOW;
        }
        int head = Head.counting(disk.bytes);
        if (head != NONE && !fitsEdition(Head.editionAt(disk.bytes, head))) {
            return OTHER_EDITION;
        }
        if (head == NONE) {
            beginEmpty();
        } else {
            beginBy(head);
        }
        goingEdition = nextEdition;
        wrongAtStart = table.wrongCount();
        fixedEnd = table.end();
        changeHeads();
        running = true;
        return table.end() - table.wrongCount();
    }

    public int row(int key, long digest) {
        if (!Table.isKey(key)) {
            return NO_SUCH;
        }
        if (!running) {
            return NOT_NOW;
        }
        int place = keep(KIND_KEY, key, digest);
        if (place == NONE) {
            unkept.put(key, digest);
            return NO_PLACE;
        }
        unkept.forget(key);
        return place;
    }

    public int asks(int row, int other) {
        if (!running || table.kindAt(row) != KIND_KEY) {
            return NO_ROW;
        }
        if (!Table.isKey(other)) {
            return NO_SUCH;
        }
        if (row != table.end() - 1 || row < fixedEnd || row < taken) {
            return NOT_NOW;
        }
        if (table.askCount(row) >= MOST_ASKS) {
            return NO_PLACE;
        }
        table.addAsk(row, other);
        writeRow(row, area, row);
        return table.askCount(row);
    }

    public int sync() {
        if (!running) {
            return NOT_NOW;
        }
        fixedEnd = table.end();
        return disk.bring(Disk.MOST_WAITING, 0);
    }

    public int compact(int n) {
        if (n < 1 || n > MOST_STEPS) {
            return NO_SUCH;
        }
        if (!running) {
            return NOT_NOW;
        }
        int done = 0;
        boolean ended = false;
        while (done < n && !ended) {
            ended = doStep();
            done++;
        }
        return done;
    }

    public void cut(int keep, int tear) {
        disk.bring(Math.max(keep, 0), Math.min(Math.max(tear, 0), SECTOR_BYTES));
        running = false;
        taken = NONE;
        unkept.forgetAll();
    }

    public long digest(int key) {
        if (!running || !Table.isKey(key)) {
            return 0L;
        }
        if (unkept.has(key)) {
            return unkept.digestOf(key);
        }
        int place = table.latest(key);
        return place == NONE ? 0L : table.digestAt(place);
    }

    public int asked(int key, int i) {
        if (!running || !Table.isKey(key) || unkept.has(key)) {
            return NONE;
        }
        int place = table.latest(key);
        if (place == NONE || i < 0 || i >= table.askCount(place)) {
            return NONE;
        }
        return table.askAt(place, i);
    }

    public boolean sure(int key) {
        if (!running || !Table.isKey(key)) {
            return false;
        }
        if (unkept.has(key)) {
            return true;
        }
        int place = table.latest(key);
        return place != NONE && !table.isWrongBehind(place) && allAskedAhead(place);
    }

    public byte sector(int n, int i) throws ArrayIndexOutOfBoundsException {
        if (n < 0 || n >= disk.sectors || i < 0 || i >= SECTOR_BYTES) {
            throw new ArrayIndexOutOfBoundsException("no such byte of a sector");
        }
        return disk.bytes[n * SECTOR_BYTES + i];
    }

    public int poke(int place, int mask) {
        if (place < 0 || place >= disk.bytes.length || mask < 1 || mask > 255) {
            return NO_SUCH;
        }
        disk.bytes[place] = (byte) (disk.bytes[place] ^ mask);
        return 1;
    }

    public int wrong() {
        return wrongAtStart;
    }

    public int lock(int user) {
        if (!Table.isUser(user)) {
            return NO_SUCH;
        }
        if (!running) {
            return NOT_NOW;
        }
        int holder = table.lockHolder();
        if (holder != NONE) {
            return holder == user ? 1 : 0;
        }
        return keep(KIND_LOCK, user, 0L) == NONE ? NO_PLACE : 1;
    }

    public int dead(int user) {
        if (!Table.isUser(user)) {
            return NO_SUCH;
        }
        if (!running) {
            return NOT_NOW;
        }
        if (table.lockHolder() != user) {
            return 0;
        }
        return keep(KIND_FREED, user, 0L) == NONE ? NO_PLACE : 1;
    }

    public int edition(int e) {
        if (e < 1 || e > MOST_EDITION) {
            return NO_SUCH;
        }
        nextEdition = e;
        return 1;
    }

    public int about(int what) {
        if (what == 0) {
            return running ? 1 : 0;
        }
        if (what == 8) {
            return table.places();
        }
        return running ? aboutRunning(what) : NONE;
    }

    private int aboutRunning(int what) {
        switch (what) {
            case 1:
                return table.end();
            case 2:
                return disk.waiting();
            case 3:
                return unkept.count();
            case 4:
                return table.lockHolder();
            case 5:
                return area;
            case 6:
                return sequence;
            case 7:
                return taken;
            default:
                return NONE;
        }
    }

    private boolean fitsEdition(long edition) {
        return edition == nextEdition || edition == nextEdition - 1;
    }

    private void beginEmpty() {
        sequence = 0;
        area = 0;
        table.clear();
        clearArea(0);
    }

    private void beginBy(int head) {
        sequence = Head.sequenceAt(disk.bytes, head);
        area = Head.areaAt(disk.bytes, head);
        table.read(disk.bytes, firstSector(area) * SECTOR_BYTES);
    }

    private int firstSector(int ofArea) {
        return HEAD_SECTORS + ofArea * areaSectors;
    }

    private void clearArea(int cleared) {
        int first = firstSector(cleared);
        for (int i = 0; i < areaSectors; i++) {
            disk.waitWithZeros(first + i);
        }
    }

    private void changeHeads() {
        for (int i = 0; i < HEAD_SECTORS; i++) {
            sequence++;
            // floorMod, as no bound of calls keeps the sequence of a long used object from its wrap-around
            int at = disk.waitWithZeros(Math.floorMod(sequence, HEAD_SECTORS));
            Head.write(disk.queue, at, goingEdition, sequence, area);
        }
    }

    /** Answers the new row's place, NONE if there is none for it. */
    private int keep(int kind, int name, long digest) {
        if (table.isFull()) {
            return NONE;
        }
        int place = table.append(kind, name, digest);
        writeRow(place, area, place);
        return place;
    }

    /** Makes the sector wait that has the row of a place (of the table), written at a place of an area. */
    private void writeRow(int place, int toArea, int toPlace) {
        int begin = disk.waitAsItWillBe(firstSector(toArea) + toPlace / SECTOR_PLACES);
        table.write(place, disk.queue, begin + toPlace % SECTOR_PLACES * ROW_BYTES, toPlace);
    }

    private boolean allAskedAhead(int place) {
        int count = table.askCount(place);
        for (int i = 0; i < count; i++) {
            int other = table.askAt(place, i);
            int latest = table.latest(other);
            if (latest == NONE || latest >= place || unkept.has(other)) {
                return false;
            }
        }
        return true;
    }

    /** One step of compaction; true if it was the one that ends it. */
    private boolean doStep() {
        if (taken == NONE) {
            clearArea(1 - area);
            taken = 0;
            copied = 0;
            return false;
        }
        if (taken < table.end()) {
            takePlace(taken);
            return false;
        }
        endCompaction();
        return true;
    }

    private void takePlace(int place) {
        if (table.isToCopy(place)) {
            writeRow(place, 1 - area, copied);
            copiedFrom[copied] = place;
            copied++;
        }
        taken++;
    }

    private void endCompaction() {
        area = 1 - area;
        table.keepOnly(copiedFrom, copied);
        fixedEnd = copied;
        taken = NONE;
        changeHeads();
    }

    /** Numbers of several bytes, and the sum over bytes. */
    private static final class Numbers {
        private static final int FACTOR = 0x85EBCA77;

        static long read(byte[] bytes, int at, int count) {
            long number = 0L;
            for (int i = 0; i < count; i++) {
                number = number << 8 | bytes[at + i] & 255;
            }
            return number;
        }

        static void write(byte[] bytes, int at, int count, long number) {
            for (int i = 0; i < count; i++) {
                bytes[at + i] = (byte) (number >>> 8 * (count - 1 - i));
            }
        }

        static int sum(byte[] bytes, int at, int count, int by) {
            int s = by + 1;
            for (int i = 0; i < count; i++) {
                int mixed = s ^ bytes[at + i] & 255;
                s = (mixed << 5 | mixed >>> 27) * FACTOR;
            }
            return s;
        }

        static boolean hasSum(byte[] bytes, int at, int count, int by) {
            return (int) read(bytes, at + count, 4) == sum(bytes, at, count, by);
        }

        static void writeSum(byte[] bytes, int at, int count, int by) {
            write(bytes, at + count, 4, sum(bytes, at, count, by));
        }
    }

    /** The bytes of a head. A head is named by the sector that it is in. */
    private static final class Head {
        private static final int SEQUENCE_AT = 4;
        private static final int AREA_AT = 8;
        private static final int SUMMED = 508;
        private static final long SEQUENCE_LIMIT = 2000000000L;

        /** The head that counts, NONE if there is none. */
        static int counting(byte[] bytes) {
            int best = NONE;
            for (int head = 0; head < HEAD_SECTORS; head++) {
                if (isGood(bytes, head) && (best == NONE || sequenceAt(bytes, head) > sequenceAt(bytes, best))) {
                    best = head;
                }
            }
            return best;
        }

        static boolean isGood(byte[] bytes, int head) {
            int at = head * SECTOR_BYTES;
            long sequence = Numbers.read(bytes, at + SEQUENCE_AT, 4);
            if (sequence >= SEQUENCE_LIMIT || sequence % HEAD_SECTORS != head || areaAt(bytes, head) > 1) {
                return false;
            }
            return Numbers.hasSum(bytes, at, SUMMED, (int) sequence);
        }

        static long editionAt(byte[] bytes, int head) {
            return Numbers.read(bytes, head * SECTOR_BYTES, 4);
        }

        static int sequenceAt(byte[] bytes, int head) {
            return (int) Numbers.read(bytes, head * SECTOR_BYTES + SEQUENCE_AT, 4);
        }

        static int areaAt(byte[] bytes, int head) {
            return bytes[head * SECTOR_BYTES + AREA_AT] & 255;
        }

        /** Writes a head into bytes that are all 0. */
        static void write(byte[] bytes, int at, int ofEdition, int ofSequence, int ofArea) {
            Numbers.write(bytes, at, 4, ofEdition);
            Numbers.write(bytes, at + SEQUENCE_AT, 4, ofSequence);
            bytes[at + AREA_AT] = (byte) ofArea;
            Numbers.writeSum(bytes, at, SUMMED, ofSequence);
        }
    }

    /** The sectors, and the queue of writes that wait. */
    private static final class Disk {
        private static final int MOST_WAITING = 64;

        final int sectors;
        final byte[] bytes;
        /** The contents of the writes that wait, one behind another. */
        final byte[] queue;
        private final int[] targets;
        private int waitCount;

        Disk(int count) {
            sectors = count;
            bytes = new byte[count * SECTOR_BYTES];
            queue = new byte[MOST_WAITING * SECTOR_BYTES];
            targets = new int[MOST_WAITING];
        }

        int waiting() {
            return waitCount;
        }

        /** Makes a write of 0s wait, and answers where in the queue its bytes begin. */
        int waitWithZeros(int target) {
            if (waitCount >= MOST_WAITING) {
                bring(MOST_WAITING, 0);
            }
            int begin = waitCount * SECTOR_BYTES;
            for (int i = 0; i < SECTOR_BYTES; i++) {
                queue[begin + i] = 0;
            }
            return addTarget(target);
        }

        /** Likewise, with what the sector will have when all that waits has come. */
        int waitAsItWillBe(int target) {
            if (waitCount >= MOST_WAITING) {
                bring(MOST_WAITING, 0);
            }
            int begin = waitCount * SECTOR_BYTES;
            int latest = latestWrite(target);
            if (latest == NONE) {
                System.arraycopy(bytes, target * SECTOR_BYTES, queue, begin, SECTOR_BYTES);
            } else {
                System.arraycopy(queue, latest * SECTOR_BYTES, queue, begin, SECTOR_BYTES);
            }
            return addTarget(target);
        }

        /** Brings the first writes and a part of the next one, and answers how many came whole; the others are lost. */
        int bring(int whole, int tornBytes) {
            int count = Math.min(whole, waitCount);
            for (int i = 0; i <= count && i < waitCount; i++) {
                int length = i < count ? SECTOR_BYTES : tornBytes;
                System.arraycopy(queue, i * SECTOR_BYTES, bytes, targets[i] * SECTOR_BYTES, length);
            }
            waitCount = 0;
            return count;
        }

        private int addTarget(int target) {
            int begin = waitCount * SECTOR_BYTES;
            targets[waitCount] = target;
            waitCount++;
            return begin;
        }

        private int latestWrite(int target) {
            for (int i = waitCount - 1; i >= 0; i--) {
                if (targets[i] == target) {
                    return i;
                }
            }
            return NONE;
        }
    }

    /** The rows of the area that it goes by, as it has them in mind: pokes do not reach them. */
    private static final class Table {
        private static final int ASKS_AT = 3;
        private static final int DIGEST_AT = 16;
        private static final int SUMMED = 28;
        private static final int KIND_WRONG = 0;

        private final int[] kinds;
        /** The key of a row, or its user. */
        private final int[] names;
        private final int[] askCounts;
        private final int[] askKeys;
        private final long[] digests;
        /** The place of each key's latest row, or NONE. */
        private final int[] latestPlaces;
        private int lockPlace;
        private int rowsEnd;
        private int wrongPlaces;
        private int lastWrong;

        Table(int places) {
            kinds = new int[places];
            names = new int[places];
            askCounts = new int[places];
            askKeys = new int[places * MOST_ASKS];
            digests = new long[places];
            latestPlaces = new int[KEYS];
        }

        static boolean isKey(int key) {
            return key >= 0 && key < KEYS;
        }

        static boolean isUser(int user) {
            return user >= 0 && user < USERS;
        }

        int places() {
            return kinds.length;
        }

        int end() {
            return rowsEnd;
        }

        boolean isFull() {
            return rowsEnd >= kinds.length;
        }

        int wrongCount() {
            return wrongPlaces;
        }

        /** KIND_WRONG where there is no row. */
        int kindAt(int place) {
            return place >= 0 && place < rowsEnd ? kinds[place] : KIND_WRONG;
        }

        int askCount(int place) {
            return askCounts[place];
        }

        int askAt(int place, int i) {
            return askKeys[place * MOST_ASKS + i];
        }

        long digestAt(int place) {
            return digests[place];
        }

        int latest(int key) {
            return latestPlaces[key];
        }

        boolean isWrongBehind(int place) {
            return lastWrong > place;
        }

        /** The user who has the lock, or NONE. */
        int lockHolder() {
            return lockPlace != NONE && kinds[lockPlace] == KIND_LOCK ? names[lockPlace] : NONE;
        }

        boolean isToCopy(int place) {
            if (kinds[place] == KIND_KEY) {
                return latestPlaces[names[place]] == place && !isWrongBehind(place);
            }
            return place == lockPlace;
        }

        void clear() {
            rowsEnd = 0;
            index();
        }

        /** Takes the rows of the area whose bytes begin here. */
        void read(byte[] bytes, int from) {
            rowsEnd = 0;
            for (int place = 0; place < kinds.length; place++) {
                int at = from + place * ROW_BYTES;
                if (isRow(bytes, at, place)) {
                    readRow(bytes, at, place);
                    rowsEnd = place + 1;
                } else {
                    kinds[place] = KIND_WRONG;
                }
            }
            index();
        }

        int append(int kind, int name, long digest) {
            int place = rowsEnd;
            kinds[place] = kind;
            names[place] = name;
            askCounts[place] = 0;
            digests[place] = digest;
            rowsEnd++;
            indexPlace(place);
            return place;
        }

        void addAsk(int place, int key) {
            askKeys[place * MOST_ASKS + askCounts[place]] = key;
            askCounts[place]++;
        }

        /** Moves the rows of these places (rising ones) to the places from 0 on; all others are gone. */
        void keepOnly(int[] from, int count) {
            for (int place = 0; place < count; place++) {
                move(from[place], place);
            }
            rowsEnd = count;
            index();
        }

        /** Writes the row of a place in the bytes that it has at another one. */
        void write(int place, byte[] bytes, int at, int toPlace) {
            int count = askCounts[place];
            for (int i = 0; i < ROW_BYTES; i++) {
                bytes[at + i] = 0;
            }
            bytes[at] = (byte) kinds[place];
            bytes[at + 1] = (byte) names[place];
            bytes[at + 2] = (byte) count;
            for (int i = 0; i < count; i++) {
                bytes[at + ASKS_AT + i] = (byte) askAt(place, i);
            }
            Numbers.write(bytes, at + DIGEST_AT, 8, digests[place]);
            Numbers.writeSum(bytes, at, SUMMED, toPlace);
        }

        private static boolean isRow(byte[] bytes, int at, int place) {
            int kind = bytes[at];
            int name = bytes[at + 1];
            int count = bytes[at + 2];
            if (kind == KIND_KEY) {
                if (!isKey(name) || !areKeys(bytes, at + ASKS_AT, count)) {
                    return false;
                }
            } else if (kind != KIND_LOCK && kind != KIND_FREED || !isUser(name) || count != 0) {
                return false;
            }
            return Numbers.hasSum(bytes, at, SUMMED, place);
        }

        private static boolean areKeys(byte[] bytes, int at, int count) {
            if (count < 0 || count > MOST_ASKS) {
                return false;
            }
            for (int i = 0; i < count; i++) {
                if (!isKey(bytes[at + i])) {
                    return false;
                }
            }
            return true;
        }

        private void readRow(byte[] bytes, int at, int place) {
            kinds[place] = bytes[at];
            names[place] = bytes[at + 1];
            askCounts[place] = bytes[at + 2];
            for (int i = 0; i < MOST_ASKS; i++) {
                askKeys[place * MOST_ASKS + i] = bytes[at + ASKS_AT + i];
            }
            digests[place] = kinds[place] == KIND_KEY ? Numbers.read(bytes, at + DIGEST_AT, 8) : 0L;
        }

        private void move(int from, int to) {
            kinds[to] = kinds[from];
            names[to] = names[from];
            askCounts[to] = askCounts[from];
            for (int i = 0; i < MOST_ASKS; i++) {
                askKeys[to * MOST_ASKS + i] = askKeys[from * MOST_ASKS + i];
            }
            digests[to] = digests[from];
        }

        private void index() {
            for (int key = 0; key < KEYS; key++) {
                latestPlaces[key] = NONE;
            }
            lockPlace = NONE;
            wrongPlaces = 0;
            lastWrong = NONE;
            for (int place = 0; place < rowsEnd; place++) {
                indexPlace(place);
            }
        }

        private void indexPlace(int place) {
            if (kinds[place] == KIND_WRONG) {
                wrongPlaces++;
                lastWrong = place;
            } else if (kinds[place] == KIND_KEY) {
                latestPlaces[names[place]] = place;
            } else {
                lockPlace = place;
            }
        }
    }

    /** The keys whose newest row found no place, with its digest. */
    private static final class Unkept {
        private final boolean[] marks;
        private final long[] digests;

        Unkept() {
            marks = new boolean[KEYS];
            digests = new long[KEYS];
        }

        boolean has(int key) {
            return marks[key];
        }

        long digestOf(int key) {
            return digests[key];
        }

        int count() {
            int count = 0;
            for (int key = 0; key < KEYS; key++) {
                if (marks[key]) {
                    count++;
                }
            }
            return count;
        }

        void put(int key, long digest) {
            marks[key] = true;
            digests[key] = digest;
        }

        void forget(int key) {
            marks[key] = false;
        }

        void forgetAll() {
            for (int key = 0; key < KEYS; key++) {
                marks[key] = false;
            }
        }
    }
}
