import java.util.ArrayList;
import java.util.Arrays;

/**
 * A table kept as immutable files on a store of objects, with a numbered log of what was added and removed.
 * The words in capitals are those of the document.
 */
public final class LakeTable {
    public static final int NONE = -1;
    public static final int MISSING = Integer.MIN_VALUE;

    private static final int DATA = 0;
    private static final int ENTRY = 1;
    private static final int CHECKPOINT = 2;

    private static final int PARTITIONS = 8;
    private static final int COLUMNS = 3;
    private static final int WRITERS = 4;
    private static final int MOST_ROWS = 48;
    private static final int MOST_APPENDED = 96;
    private static final int MOST_OBJECTS = 100;
    private static final int MOST_FILES = 200;
    private static final int MOST_BEHIND = 1000;
    private static final int LEAST_ROOM = 100;
    private static final int MOST_ROOM = 20000;
    private static final int FIRST_ROOM = 6000;
    private static final int MOST_TRIES = 8;
    private static final int FIRST_TRIES = 3;

    private static final int DATA_MARK = 84;
    private static final int ENTRY_MARK = 76;
    private static final int CHECKPOINT_MARK = 67;
    private static final int ADD = 1;
    private static final int REMOVE = 2;
    private static final int LOG_HEAD = 6;
    private static final int ACTION_BYTES = 6;
    private static final int LISTED_BYTES = 5;
    private static final int CHECK_BYTES = 4;
    /** The longest DATA object: 48 ROWS without a MISSING one, each VALUE as U4. */
    private static final int MOST_DATA_BYTES = 3 + COLUMNS * (1 + MOST_ROWS / 8 + 4 * MOST_ROWS + 8) + CHECK_BYTES;

    private static final int PLAIN = 0;
    private static final int RUNS = 1;
    private static final int DELTAS = 2;

    private static final int LESS = 0;
    private static final int NOT_LESS = 1;
    private static final int JUST = 2;

    private static final int APPEND = 0;
    private static final int DELETE = 1;
    private static final int COMPACT = 2;

    private static final int NOT_AT_WORK = 0;
    private static final int STARTED = 1;
    private static final int WROTE = 2;
    private static final int COMMITTED = 3;
    private static final int LOST = 4;
    private static final int LOOKED = 5;
    private static final int DONE_AT_ONCE = 6;

    private static final int NO_ROOM = 1;
    private static final int CONFLICT = 2;
    private static final int OUT_OF_TRIES = 3;
    private static final int UNREADABLE = 4;

    private static final int FILES_READ = 0;
    private static final int FILES_PASSED = 1;
    private static final int FILES_HURT = 2;
    private static final int VALUE_SUM = 3;

    /** The CHECK of each half byte, so that a byte takes two steps and not eight. */
    private static final int[] HALF_BYTE_CHECKS = {
        0x00000000, 0x1DB71064, 0x3B6E20C8, 0x26D930AC, 0x76DC4190, 0x6B6B51F4, 0x4DB26158, 0x5005713C,
        0xEDB88320, 0xF00F9344, 0xD6D6A3E8, 0xCB61B38C, 0x9B64C2B0, 0x86D3D2D4, 0xA00AE278, 0xBDBDF21C
    };

    private final Store store;
    private final Writer[] writers;
    private int floor;
    private int triesOfNext;
    private int nextData;
    private int commits;
    private int losses;
    private int failures;
    private int vacuumed;
    private final int[] tally;
    // Made once and used by every call again, since what a call makes stays in the room of the run.
    private final FileList listed;
    private final Condition asked;
    private final Batch sheet;
    private final Sink paper;

    public LakeTable() {
        store = new Store();
        writers = new Writer[WRITERS];
        for (int w = 0; w < writers.length; w++) {
            writers[w] = new Writer();
        }
        triesOfNext = FIRST_TRIES;
        tally = new int[VALUE_SUM + 1];
        listed = new FileList();
        asked = new Condition();
        sheet = new Batch();
        paper = new Sink();
    }

    public int room(int bytes) {
        if (bytes < LEAST_ROOM || bytes > MOST_ROOM) {
            return NONE;
        }
        int before = store.room;
        store.room = bytes;
        return before;
    }

    public int tries(int n) {
        if (n < 1 || n > MOST_TRIES) {
            return NONE;
        }
        int before = triesOfNext;
        triesOfNext = n;
        return before;
    }

    public boolean append(int w) {
        return begin(w, APPEND, NONE);
    }

    public int row(int w, int partition, int a, int b, int c) {
        Writer writer = workerOf(w);
        if (writer == null || writer.kind != APPEND || writer.started || !isPartition(partition)) {
            return NONE;
        }
        return writer.takeRow(partition, a, b, c) ? writer.rows : NONE;
    }

    public boolean delete(int w, int partition, int column, int what, int number) {
        if (!isPartition(partition) || !isCondition(column, what) || !begin(w, DELETE, partition)) {
            return false;
        }
        Writer writer = workerOf(w);
        if (writer != null) {
            writer.condition.become(column, what, number);
        }
        return true;
    }

    public boolean compact(int w, int partition) {
        return isPartition(partition) && begin(w, COMPACT, partition);
    }

    public int step(int w) {
        Writer writer = workerOf(w);
        if (writer == null) {
            return NOT_AT_WORK;
        }
        if (!writer.started) {
            return start(writer);
        }
        if (writer.mustLook) {
            return look(writer);
        }
        return writer.plan.pending() > 0 ? write(writer) : commit(writer);
    }

    public boolean crash(int w) {
        Writer writer = workerOf(w);
        if (writer == null) {
            return false;
        }
        writer.atWork = false;
        return true;
    }

    public int writer(int w, int what) {
        Writer writer = writerOf(w);
        if (writer == null) {
            return NONE;
        }
        switch (what) {
            case 0: return writer.atWork ? 1 : 0;
            case 1: return writer.base;
            case 2: return writer.lost;
            case 3: return writer.plan.puts;
            case 4: return writer.plan.pending();
            case 5: return writer.plan.removes;
            case 6: return writer.version;
            default: return NONE;
        }
    }

    public int checkpoint(int version) {
        if (version < 0 || version > latest()) {
            return -1;
        }
        if (store.blobOf(CHECKPOINT, version) != null) {
            return 0;
        }
        if (!readVersion(version, listed)) {
            return -1;
        }
        return putCheckpoint(version) ? 1 : -2;
    }

    public int vacuum(int n) {
        int newest = latest();
        if (n < 0 || n > MOST_BEHIND || newest == NONE) {
            return NONE;
        }
        int oldest = Math.max(floor, newest - n);
        if (!wantRetained(oldest, newest) || !ensureCheckpoint(oldest)) {
            return NONE;
        }
        wantOfWriters();
        int taken = 0;
        if (store.soundBlob(CHECKPOINT, oldest) != null) {
            floor = oldest;
            taken += store.checkpoints.takeBelow(oldest);
            taken += store.entries.takeBelow(Math.min(oldest, leastBase(oldest) + 1));
        }
        taken += store.data.takeUnwanted();
        vacuumed += taken;
        return taken;
    }

    public int latest() {
        Blob last = store.entries.blobAt(store.entries.filled() - 1);
        return last == null ? NONE : last.number;
    }

    public int files(int version) {
        return readVersion(version, listed) ? listed.filled : NONE;
    }

    public int file(int version, int i) {
        return readVersion(version, listed) ? listed.numberAt(i) : NONE;
    }

    public int at(int version, int i, int what) {
        if (i < 0 || what < 0 || what > COLUMNS || !readVersion(version, listed)) {
            return NONE;
        }
        int left = i;
        for (int k = 0; k < listed.filled; k++) {
            Batch batch = store.batchOf(listed.numberAt(k), listed.partitionAt(k));
            if (batch != null && left < batch.rows) {
                return what == 0 ? batch.partition : batch.valueAt(what - 1, left);
            }
            left -= batch == null ? 0 : batch.rows;
        }
        return NONE;
    }

    public int find(int version, int column, int what, int number) {
        if (!isCondition(column, what) || !readVersion(version, listed)) {
            return NONE;
        }
        asked.become(column, what, number);
        Arrays.fill(tally, 0);
        int hits = 0;
        for (int k = 0; k < listed.filled; k++) {
            Batch batch = store.batchOf(listed.numberAt(k), listed.partitionAt(k));
            if (batch == null) {
                tally[FILES_HURT]++;
            } else if (!asked.mayHoldIn(batch)) {
                tally[FILES_PASSED]++;
            } else {
                tally[FILES_READ]++;
                tally[VALUE_SUM] += asked.sumIn(batch);
                hits += asked.hitsIn(batch);
            }
        }
        return hits;
    }

    public int found(int what) {
        return what < 0 || what >= tally.length ? NONE : tally[what];
    }

    public int size(int sort, int number) {
        Blob blob = store.blobOf(sort, number);
        return blob == null ? NONE : blob.bytes.length;
    }

    public int octet(int sort, int number, int i) {
        Blob blob = store.blobOf(sort, number);
        return blob == null ? NONE : blob.octetAt(i);
    }

    public int spoil(int sort, int number, int i, int b) {
        Blob blob = store.blobOf(sort, number);
        return blob == null ? NONE : blob.replace(i, b);
    }

    public int count(int what) {
        switch (what) {
            case 0: return store.objects();
            case 1: return store.allBytes();
            case 2: return nextData;
            case 3: return store.checkpoints.filled();
            case 4: return commits;
            case 5: return losses;
            case 6: return failures;
            case 7: return vacuumed;
            default: return NONE;
        }
    }

    private static boolean isPartition(int partition) {
        return partition >= 0 && partition < PARTITIONS;
    }

    private static boolean isCondition(int column, int what) {
        return column >= 0 && column < COLUMNS && what >= LESS && what <= JUST;
    }

    private Writer writerOf(int w) {
        return w < 0 || w >= writers.length ? null : writers[w];
    }

    /** Writer w where it is at work, else null. */
    private Writer workerOf(int w) {
        Writer writer = writerOf(w);
        return writer != null && writer.atWork ? writer : null;
    }

    private boolean begin(int w, int kind, int partition) {
        Writer writer = writerOf(w);
        if (writer == null || writer.atWork) {
            return false;
        }
        writer.becomeNew(kind, partition, triesOfNext);
        return true;
    }

    private int fail(Writer writer, int reason) {
        writer.atWork = false;
        failures++;
        return -reason;
    }

    private int start(Writer writer) {
        writer.started = true;
        writer.base = latest();
        if (!readVersion(writer.base, writer.files)) {
            return fail(writer, UNREADABLE);
        }
        if (writer.kind != APPEND && anyFileIsHurt(writer)) {
            return fail(writer, UNREADABLE);
        }
        // What is to be written is told now: the FILES may be spoiled ahead of the steps that PUT it.
        if (writer.kind == APPEND) {
            planAppend(writer);
        } else if (writer.kind == DELETE) {
            planDelete(writer);
        } else {
            planCompact(writer);
        }
        if (writer.plan.isEmpty()) {
            writer.atWork = false;
            return DONE_AT_ONCE;
        }
        return STARTED;
    }

    private boolean anyFileIsHurt(Writer writer) {
        for (int k = 0; k < writer.files.filled; k++) {
            boolean isOurs = writer.files.partitionAt(k) == writer.partition;
            if (isOurs && store.batchOf(writer.files.numberAt(k), writer.partition) == null) {
                return true;
            }
        }
        return false;
    }

    private void planAppend(Writer writer) {
        for (int partition = 0; partition < PARTITIONS; partition++) {
            sheet.clear(partition);
            writer.copyRows(sheet);
            if (sheet.rows > 0) {
                writer.plan.addOutput(sheet);
            }
        }
    }

    private void planDelete(Writer writer) {
        for (int k = 0; k < writer.files.filled; k++) {
            Batch batch = store.batchOf(writer.files.numberIn(writer.partition, k), writer.partition);
            if (batch == null || !writer.condition.mayHoldIn(batch)) {
                continue;
            }
            sheet.clear(writer.partition);
            writer.condition.copyOthers(batch, sheet);
            if (sheet.rows == batch.rows) {
                continue;
            }
            writer.plan.addRemoved(writer.files.numberAt(k));
            if (sheet.rows > 0) {
                writer.plan.addOutput(sheet);
            }
        }
    }

    private void planCompact(Writer writer) {
        if (writer.files.countOf(writer.partition) < 2) {
            return;
        }
        sheet.clear(writer.partition);
        for (int k = 0; k < writer.files.filled; k++) {
            Batch batch = store.batchOf(writer.files.numberIn(writer.partition, k), writer.partition);
            if (batch == null) {
                continue;
            }
            writer.plan.addRemoved(writer.files.numberAt(k));
            for (int row = 0; row < batch.rows; row++) {
                sheet.addRowOf(batch, row);
                if (sheet.rows == MOST_ROWS) {
                    writer.plan.addOutput(sheet);
                    sheet.clear(writer.partition);
                }
            }
        }
        if (sheet.rows > 0) {
            writer.plan.addOutput(sheet);
        }
    }

    private int write(Writer writer) {
        Plan plan = writer.plan;
        if (!store.put(DATA, nextData, plan.sink.slice(plan.startOf(plan.puts), plan.endOf(plan.puts)))) {
            return fail(writer, NO_ROOM);
        }
        plan.notePut(nextData);
        nextData++;
        return WROTE;
    }

    private int commit(Writer writer) {
        int version = writer.base + 1;
        if (store.blobOf(ENTRY, version) != null) {
            return lose(writer);
        }
        paper.clear();
        writer.plan.writeEntry(paper, version, writer.partition);
        if (!store.put(ENTRY, version, paper.slice(0, paper.filled))) {
            return fail(writer, NO_ROOM);
        }
        writer.atWork = false;
        writer.version = version;
        commits++;
        return COMMITTED;
    }

    private int lose(Writer writer) {
        writer.lost++;
        losses++;
        if (writer.lost >= writer.tries) {
            return fail(writer, OUT_OF_TRIES);
        }
        writer.mustLook = true;
        return LOST;
    }

    private int look(Writer writer) {
        writer.mustLook = false;
        writer.base++;
        Blob entry = store.soundBlob(ENTRY, writer.base);
        if (entry == null) {
            return fail(writer, UNREADABLE);
        }
        if (writer.kind != APPEND && entry.hasActionOn(writer.partition)) {
            return fail(writer, CONFLICT);
        }
        return LOOKED;
    }

    /** Puts the FILES of a version into the list; false where it can't be READ. Version NONE has none. */
    private boolean readVersion(int version, FileList files) {
        files.clear();
        if (version == NONE) {
            return true;
        }
        if (version < floor || version > latest()) {
            return false;
        }
        int behind = 0;
        Blob checkpoint = store.soundCheckpointUpTo(version);
        if (checkpoint != null) {
            checkpoint.listTo(files);
            behind = checkpoint.number + 1;
        }
        for (int v = behind; v <= version; v++) {
            Blob entry = store.soundBlob(ENTRY, v);
            if (entry == null || !entry.applyTo(files)) {
                return false;
            }
        }
        return true;
    }

    /** PUTS the CHECKPOINT of the version whose FILES were listed last. */
    private boolean putCheckpoint(int version) {
        paper.clear();
        listed.writeCheckpoint(paper, version);
        return store.put(CHECKPOINT, version, paper.slice(0, paper.filled));
    }

    private boolean ensureCheckpoint(int version) {
        if (store.blobOf(CHECKPOINT, version) != null) {
            return true;
        }
        return readVersion(version, listed) && putCheckpoint(version);
    }

    /** Marks the DATA objects of these versions as wanted, and no others; false where one can't be READ. */
    private boolean wantRetained(int oldest, int newest) {
        store.data.wantNone();
        for (int version = oldest; version <= newest; version++) {
            if (!readVersion(version, listed)) {
                return false;
            }
            listed.wantAll(store.data);
        }
        return true;
    }

    private void wantOfWriters() {
        for (int w = 0; w < WRITERS; w++) {
            Writer writer = workerOf(w);
            if (writer != null && writer.started) {
                writer.files.wantAll(store.data);
                writer.plan.wantPut(store.data);
            }
        }
    }

    /** The least BASE of the writers that have STARTED, at most that bound: they still look at what is above. */
    private int leastBase(int bound) {
        int least = bound;
        for (int w = 0; w < WRITERS; w++) {
            Writer writer = workerOf(w);
            if (writer != null && writer.started) {
                least = Math.min(least, writer.base);
            }
        }
        return least;
    }

    /** Bytes that grow at their end: what an OBJECT is put together in. */
    private static final class Sink {
        private byte[] bytes = new byte[64];
        int filled;

        void clear() {
            filled = 0;
        }

        /** Called ahead of writing: the methods that write leave out what there is no place for. */
        void makePlace(int more) {
            int needed = filled + more;
            if (needed > bytes.length) {
                bytes = Arrays.copyOf(bytes, Math.max(needed, 2 * bytes.length));
            }
        }

        void u1(int x) {
            if (filled < bytes.length) {
                bytes[filled] = (byte) x;
                filled++;
            }
        }

        void u4(int x) {
            if (filled <= bytes.length - 4) {
                bytes[filled] = (byte) (x >>> 24);
                bytes[filled + 1] = (byte) (x >>> 16);
                bytes[filled + 2] = (byte) (x >>> 8);
                bytes[filled + 3] = (byte) x;
                filled += 4;
            }
        }

        void varint(int x) {
            int z = (x << 1) ^ (x >> 31);
            boolean isLast = false;
            for (int k = 0; k < 5 && !isLast && filled < bytes.length; k++) {
                isLast = z >>> 7 == 0;
                bytes[filled] = (byte) (isLast ? z : z & 127 | 128);
                filled++;
                z >>>= 7;
            }
        }

        static int varintBytes(int x) {
            int z = (x << 1) ^ (x >> 31);
            int length = 1;
            while (length < 5 && z >>> (7 * length) != 0) {
                length++;
            }
            return length;
        }

        void check(int from) {
            u4(checkOf(bytes, from, filled));
        }

        static int checkOf(byte[] bytes, int from, int to) {
            int check = 0xFFFFFFFF;
            for (int i = from; i >= 0 && i < to && i < bytes.length; i++) {
                int b = bytes[i];
                check = check >>> 4 ^ HALF_BYTE_CHECKS[(check ^ b) & 15];
                check = check >>> 4 ^ HALF_BYTE_CHECKS[(check ^ b >> 4) & 15];
            }
            return ~check;
        }

        byte[] slice(int from, int to) {
            if (from < 0 || to < from || to > filled) {
                return new byte[0];
            }
            return Arrays.copyOfRange(bytes, from, to);
        }

        boolean holdsJust(byte[] others) {
            if (filled != others.length || filled > bytes.length) {
                return false;
            }
            for (int i = 0; i < others.length; i++) {
                if (bytes[i] != others[i]) {
                    return false;
                }
            }
            return true;
        }
    }

    /** Bytes read from their front; broken where more was read than there is. */
    private static final class Source {
        private byte[] bytes = new byte[0];
        private int next;
        private int end;
        boolean broken;

        void open(byte[] toRead, int howMany) {
            bytes = toRead;
            next = 0;
            end = Math.min(howMany, toRead.length);
            broken = end < 0;
        }

        boolean isAtEnd() {
            return !broken && next == end;
        }

        int u1() {
            if (next >= end) {
                broken = true;
                return 0;
            }
            int x = bytes[next] & 255;
            next++;
            return x;
        }

        int u4() {
            if (next > end - 4) {
                broken = true;
                return 0;
            }
            int x = (bytes[next] & 255) << 24 | (bytes[next + 1] & 255) << 16
                | (bytes[next + 2] & 255) << 8 | bytes[next + 3] & 255;
            next += 4;
            return x;
        }

        int varint() {
            int z = 0;
            for (int k = 0; k < 5 && next < end; k++) {
                int b = bytes[next];
                next++;
                z |= (b & 127) << (7 * k);
                if (b >= 0) {
                    return z >>> 1 ^ -(z & 1);
                }
            }
            broken = true;
            return 0;
        }
    }

    /** ROWS of one PARTITION, with the bounds of each column. */
    private static final class Batch {
        int partition;
        int rows;
        private final int[] values = new int[COLUMNS * MOST_ROWS];
        private final int[] present = new int[COLUMNS];
        private final int[] least = new int[COLUMNS];
        private final int[] greatest = new int[COLUMNS];

        void clear(int newPartition) {
            partition = newPartition;
            rows = 0;
            Arrays.fill(present, 0);
            Arrays.fill(least, 0);
            Arrays.fill(greatest, 0);
        }

        void addRow(int a, int b, int c) {
            if (rows < MOST_ROWS) {
                setValue(0, rows, a);
                setValue(1, rows, b);
                setValue(2, rows, c);
                rows++;
            }
        }

        void addRowOf(Batch other, int row) {
            addRow(other.valueAt(0, row), other.valueAt(1, row), other.valueAt(2, row));
        }

        int valueAt(int column, int row) {
            boolean isThere = column >= 0 && column < COLUMNS && row >= 0 && row < MOST_ROWS;
            return isThere ? values[column * MOST_ROWS + row] : MISSING;
        }

        /** Each place is set once behind clear(): the bounds only ever widen. */
        private void setValue(int column, int row, int value) {
            if (column < 0 || column >= COLUMNS || row < 0 || row >= MOST_ROWS) {
                return;
            }
            values[column * MOST_ROWS + row] = value;
            if (value == MISSING) {
                return;
            }
            boolean isFirst = present[column] == 0;
            if (isFirst || value < least[column]) {
                least[column] = value;
            }
            if (isFirst || value > greatest[column]) {
                greatest[column] = value;
            }
            present[column]++;
        }

        boolean hasValueIn(int column) {
            return column >= 0 && column < COLUMNS && present[column] > 0;
        }

        int leastOf(int column) {
            return column >= 0 && column < COLUMNS ? least[column] : 0;
        }

        int greatestOf(int column) {
            return column >= 0 && column < COLUMNS ? greatest[column] : 0;
        }

        void writeTo(Sink sink) {
            int from = sink.filled;
            sink.makePlace(MOST_DATA_BYTES);
            sink.u1(DATA_MARK);
            sink.u1(partition);
            sink.u1(rows);
            for (int column = 0; column < COLUMNS; column++) {
                int way = shortestWay(column);
                sink.u1(way);
                writeMissing(sink, column);
                if (way == RUNS) {
                    writeRuns(sink, column);
                } else {
                    writeOneByOne(sink, column, way);
                }
                sink.u4(least[column]);
                sink.u4(greatest[column]);
            }
            sink.check(from);
        }

        private int shortestWay(int column) {
            int plain = 0;
            int runs = 0;
            int deltas = 0;
            int ahead = 0;
            for (int row = 0; row < rows; row++) {
                int value = valueAt(column, row);
                if (value == MISSING) {
                    continue;
                }
                runs += plain == 0 || value != ahead ? 5 : 0;
                plain += 4;
                deltas += Sink.varintBytes(value - ahead);
                ahead = value;
            }
            int way = runs < plain ? RUNS : PLAIN;
            return deltas < Math.min(plain, runs) ? DELTAS : way;
        }

        private void writeMissing(Sink sink, int column) {
            for (int first = 0; first < rows; first += 8) {
                int bits = 0;
                for (int row = first; row < first + 8 && row < rows; row++) {
                    bits |= valueAt(column, row) == MISSING ? 128 >> (row - first) : 0;
                }
                sink.u1(bits);
            }
        }

        private void writeRuns(Sink sink, int column) {
            int length = 0;
            int like = 0;
            for (int row = 0; row < rows; row++) {
                int value = valueAt(column, row);
                if (value == MISSING) {
                    continue;
                }
                if (length > 0 && value != like) {
                    sink.u1(length);
                    sink.u4(like);
                    length = 0;
                }
                like = value;
                length++;
            }
            if (length > 0) {
                sink.u1(length);
                sink.u4(like);
            }
        }

        private void writeOneByOne(Sink sink, int column, int way) {
            int ahead = 0;
            for (int row = 0; row < rows; row++) {
                int value = valueAt(column, row);
                if (value == MISSING) {
                    continue;
                }
                if (way == PLAIN) {
                    sink.u4(value);
                } else {
                    sink.varint(value - ahead);
                }
                ahead = value;
            }
        }

        /**
         * Takes the ROWS that the bytes tell; false where they can't tell any. Bytes that tell them in another
         * way than writeTo() are let through here: who asks writes them again and compares.
         */
        boolean readFrom(Source source) {
            int mark = source.u1();
            clear(source.u1());
            int told = source.u1();
            if (mark != DATA_MARK || !isPartition(partition) || told < 1 || told > MOST_ROWS) {
                return false;
            }
            rows = told;
            for (int column = 0; column < COLUMNS; column++) {
                if (!readColumn(source, column)) {
                    return false;
                }
            }
            return source.isAtEnd();
        }

        private boolean readColumn(Source source, int column) {
            int way = source.u1();
            long missing = 0;
            int bits = 0;
            for (int first = 0; first < rows; first += 8) {
                missing = missing << 8 | source.u1();
                bits += 8;
            }
            int left = 0;
            int value = 0;
            for (int row = 0; row < rows && !source.broken; row++) {
                if ((missing >> (bits - 1 - row) & 1) == 1) {
                    setValue(column, row, MISSING);
                    continue;
                }
                if (way == PLAIN) {
                    value = source.u4();
                } else if (way == DELTAS) {
                    value += source.varint();
                } else if (left == 0) {
                    left = source.u1();
                    value = source.u4();
                }
                left = Math.max(left - 1, 0);
                setValue(column, row, value);
            }
            source.u4();
            source.u4();
            return way <= DELTAS && !source.broken;
        }
    }

    /** What the VALUE of a column must be to a number. */
    private static final class Condition {
        private int column;
        private int what;
        private int number;

        void become(int newColumn, int newWhat, int newNumber) {
            column = newColumn;
            what = newWhat;
            number = newNumber;
        }

        private boolean holdsFor(int value) {
            if (value == MISSING) {
                return false;
            }
            if (what == LESS) {
                return value < number;
            }
            return what == NOT_LESS ? value >= number : value == number;
        }

        /** Whether some ROWS may be such ones, by the bounds alone. */
        boolean mayHoldIn(Batch batch) {
            if (!batch.hasValueIn(column)) {
                return false;
            }
            if (what == LESS) {
                return batch.leastOf(column) < number;
            }
            boolean reachesUp = batch.greatestOf(column) >= number;
            return what == NOT_LESS ? reachesUp : reachesUp && batch.leastOf(column) <= number;
        }

        int hitsIn(Batch batch) {
            int hits = 0;
            for (int row = 0; row < batch.rows; row++) {
                hits += holdsFor(batch.valueAt(column, row)) ? 1 : 0;
            }
            return hits;
        }

        int sumIn(Batch batch) {
            int sum = 0;
            for (int row = 0; row < batch.rows; row++) {
                int value = batch.valueAt(column, row);
                sum += holdsFor(value) ? value : 0;
            }
            return sum;
        }

        /** Adds the ROWS that are no such ones. */
        void copyOthers(Batch from, Batch to) {
            for (int row = 0; row < from.rows; row++) {
                if (!holdsFor(from.valueAt(column, row))) {
                    to.addRowOf(from, row);
                }
            }
        }
    }

    /** FILES by their numbers, each with the PARTITION that the log tells. */
    private static final class FileList {
        private final int[] numbers = new int[MOST_FILES];
        private final int[] partitions = new int[MOST_FILES];
        int filled;

        void clear() {
            filled = 0;
        }

        int numberAt(int i) {
            return i < 0 || i >= filled || i >= numbers.length ? NONE : numbers[i];
        }

        int partitionAt(int i) {
            return i < 0 || i >= filled || i >= partitions.length ? NONE : partitions[i];
        }

        /** The number of FILE i where it is of that PARTITION; NONE, which no DATA object has, where it is not. */
        int numberIn(int partition, int i) {
            return partitionAt(i) == partition ? numberAt(i) : NONE;
        }

        int countOf(int partition) {
            int many = 0;
            for (int i = 0; i < filled; i++) {
                many += partitionAt(i) == partition ? 1 : 0;
            }
            return many;
        }

        /** The first place whose number is not below this one. */
        private int placeOf(int number) {
            int place = 0;
            int span = filled;
            while (span > 0) {
                int half = span / 2;
                if (numberAt(place + half) < number) {
                    place += half + 1;
                    span -= half + 1;
                } else {
                    span = half;
                }
            }
            return place;
        }

        /** False where there would be more FILES than a version may have on the way. */
        boolean add(int number, int partition) {
            int place = placeOf(number);
            if (place < filled && numberAt(place) == number) {
                return true;
            }
            if (filled >= MOST_FILES) {
                return false;
            }
            for (int i = filled; i > place; i--) {
                numbers[i] = numbers[i - 1];
                partitions[i] = partitions[i - 1];
            }
            numbers[place] = number;
            partitions[place] = partition;
            filled++;
            return true;
        }

        void remove(int number) {
            int place = placeOf(number);
            if (place >= filled || numberAt(place) != number) {
                return;
            }
            filled--;
            for (int i = place; i < filled; i++) {
                numbers[i] = numbers[i + 1];
                partitions[i] = partitions[i + 1];
            }
        }

        void wantAll(Shelf data) {
            for (int i = 0; i < filled; i++) {
                data.want(numberAt(i));
            }
        }

        void writeCheckpoint(Sink sink, int version) {
            sink.makePlace(LOG_HEAD + LISTED_BYTES * filled + CHECK_BYTES);
            int from = sink.filled;
            sink.u1(CHECKPOINT_MARK);
            sink.u4(version);
            sink.u1(filled);
            for (int i = 0; i < filled; i++) {
                sink.u4(numberAt(i));
                sink.u1(partitionAt(i));
            }
            sink.check(from);
        }
    }

    /** One OBJECT of the store. */
    private static final class Blob {
        final int number;
        final byte[] bytes;
        /** Whether sound (and batch, of a DATA object) tell of the bytes as they are now. */
        boolean examined;
        boolean sound;
        Batch batch;
        boolean wanted;

        Blob(int number, byte[] bytes) {
            this.number = number;
            this.bytes = bytes;
        }

        int octetAt(int i) {
            return i < 0 || i >= bytes.length ? NONE : bytes[i] & 255;
        }

        int u4At(int i) {
            if (i < 0 || i > bytes.length - 4) {
                return NONE;
            }
            return (bytes[i] & 255) << 24 | (bytes[i + 1] & 255) << 16 | (bytes[i + 2] & 255) << 8 | bytes[i + 3] & 255;
        }

        int replace(int i, int b) {
            int before = octetAt(i);
            if (before != NONE) {
                bytes[i] = (byte) b;
                examined = false;
            }
            return before;
        }

        /** How many actions or FILES an ENTRY or a CHECKPOINT tells. */
        private int told() {
            return bytes.length < LOG_HEAD ? 0 : bytes[LOG_HEAD - 1] & 255;
        }

        private boolean isFramed(int mark, int bytesOfEach) {
            int end = LOG_HEAD + bytesOfEach * told();
            return bytes.length == end + CHECK_BYTES && octetAt(0) == mark && u4At(1) == number
                && u4At(end) == Sink.checkOf(bytes, 0, end);
        }

        boolean isSoundEntry() {
            if (!isFramed(ENTRY_MARK, ACTION_BYTES)) {
                return false;
            }
            int kindAhead = REMOVE;
            int numberAhead = NONE;
            for (int k = 0; k < told(); k++) {
                int at = LOG_HEAD + ACTION_BYTES * k;
                int kind = octetAt(at);
                if (kind != kindAhead) {
                    numberAhead = NONE;
                }
                // REMOVES stand ahead of ADDS, so a kind never rises; NONE is below every number under 2^31.
                if (kind < ADD || kind > kindAhead || u4At(at + 1) <= numberAhead || !isPartition(octetAt(at + 5))) {
                    return false;
                }
                kindAhead = kind;
                numberAhead = u4At(at + 1);
            }
            return true;
        }

        boolean isSoundCheckpoint() {
            if (!isFramed(CHECKPOINT_MARK, LISTED_BYTES)) {
                return false;
            }
            int numberAhead = NONE;
            for (int k = 0; k < told(); k++) {
                int at = LOG_HEAD + LISTED_BYTES * k;
                if (u4At(at) <= numberAhead || !isPartition(octetAt(at + 4))) {
                    return false;
                }
                numberAhead = u4At(at);
            }
            return true;
        }

        boolean hasActionOn(int partition) {
            for (int k = 0; k < told(); k++) {
                if (octetAt(LOG_HEAD + ACTION_BYTES * k + 5) == partition) {
                    return true;
                }
            }
            return false;
        }

        /** Carries out the actions of an ENTRY; false where there would be too many FILES. */
        boolean applyTo(FileList files) {
            for (int k = 0; k < told(); k++) {
                int at = LOG_HEAD + ACTION_BYTES * k;
                if (octetAt(at) == REMOVE) {
                    files.remove(u4At(at + 1));
                } else if (!files.add(u4At(at + 1), octetAt(at + 5))) {
                    return false;
                }
            }
            return true;
        }

        /** Adds the FILES of a CHECKPOINT, which are never too many: it was made of a version that was READ. */
        void listTo(FileList files) {
            for (int k = 0; k < told(); k++) {
                int at = LOG_HEAD + LISTED_BYTES * k;
                files.add(u4At(at), octetAt(at + 4));
            }
        }
    }

    /** The OBJECTS of one SORT, by their numbers. */
    private static final class Shelf {
        private final ArrayList<Blob> blobs = new ArrayList<Blob>();

        int filled() {
            return blobs.size();
        }

        Blob blobAt(int i) {
            return i < 0 || i >= blobs.size() ? null : blobs.get(i);
        }

        /** The first place whose number is not below this one. */
        int placeOf(int number) {
            int place = 0;
            int span = blobs.size();
            while (span > 0) {
                int half = span / 2;
                int middle = place + half;
                if (middle < blobs.size() && blobs.get(middle).number < number) {
                    place += half + 1;
                    span -= half + 1;
                } else {
                    span = half;
                }
            }
            return place;
        }

        Blob blobOf(int number) {
            Blob blob = blobAt(placeOf(number));
            return blob != null && blob.number == number ? blob : null;
        }

        void insert(Blob blob) {
            int place = placeOf(blob.number);
            if (place <= blobs.size()) {
                blobs.add(place, blob);
            }
        }

        int bytes() {
            int sum = 0;
            for (int i = 0; i < blobs.size(); i++) {
                sum += blobs.get(i).bytes.length;
            }
            return sum;
        }

        void wantNone() {
            for (int i = 0; i < blobs.size(); i++) {
                blobs.get(i).wanted = false;
            }
        }

        void want(int number) {
            Blob blob = blobOf(number);
            if (blob != null) {
                blob.wanted = true;
            }
        }

        int takeUnwanted() {
            int before = blobs.size();
            for (int i = before - 1; i >= 0; i--) {
                if (i < blobs.size() && !blobs.get(i).wanted) {
                    blobs.remove(i);
                }
            }
            return before - blobs.size();
        }

        int takeBelow(int number) {
            int taken = placeOf(number);
            for (int i = taken - 1; i >= 0; i--) {
                if (i < blobs.size()) {
                    blobs.remove(i);
                }
            }
            return taken;
        }
    }

    /** The OBJECTS, and whether they are DAMAGED. */
    private static final class Store {
        final Shelf data = new Shelf();
        final Shelf entries = new Shelf();
        final Shelf checkpoints = new Shelf();
        int room = FIRST_ROOM;
        private final Source source = new Source();
        private final Sink again = new Sink();

        private Shelf shelfOf(int sort) {
            switch (sort) {
                case DATA: return data;
                case ENTRY: return entries;
                case CHECKPOINT: return checkpoints;
                default: return null;
            }
        }

        Blob blobOf(int sort, int number) {
            Shelf shelf = shelfOf(sort);
            return shelf == null ? null : shelf.blobOf(number);
        }

        int objects() {
            return data.filled() + entries.filled() + checkpoints.filled();
        }

        int allBytes() {
            return data.bytes() + entries.bytes() + checkpoints.bytes();
        }

        /** False where it is refused. */
        boolean put(int sort, int number, byte[] bytes) {
            Shelf shelf = shelfOf(sort);
            if (shelf == null || shelf.blobOf(number) != null) {
                return false;
            }
            if (objects() >= MOST_OBJECTS || allBytes() + bytes.length > room) {
                return false;
            }
            shelf.insert(new Blob(number, bytes));
            return true;
        }

        /** An OBJECT that is there and not DAMAGED, else null. */
        Blob soundBlob(int sort, int number) {
            Blob blob = blobOf(sort, number);
            return blob != null && isSound(sort, blob) ? blob : null;
        }

        Blob soundCheckpointUpTo(int version) {
            int place = checkpoints.placeOf(version);
            Blob blob = checkpoints.blobAt(place);
            int last = blob != null && blob.number == version ? place : place - 1;
            for (int i = last; i >= 0; i--) {
                blob = checkpoints.blobAt(i);
                if (blob != null && isSound(CHECKPOINT, blob)) {
                    return blob;
                }
            }
            return null;
        }

        /** The ROWS of a FILE that the log tells with this PARTITION; null where it is DAMAGED or gone. */
        Batch batchOf(int number, int partition) {
            Blob blob = data.blobOf(number);
            if (blob == null || !isSound(DATA, blob) || blob.batch == null) {
                return null;
            }
            return blob.batch.partition == partition ? blob.batch : null;
        }

        /** Looked at once and kept, as only spoil() changes bytes. */
        private boolean isSound(int sort, Blob blob) {
            if (blob.examined) {
                return blob.sound;
            }
            blob.examined = true;
            if (sort == ENTRY) {
                blob.sound = blob.isSoundEntry();
            } else if (sort == CHECKPOINT) {
                blob.sound = blob.isSoundCheckpoint();
            } else {
                if (blob.batch == null) {
                    blob.batch = new Batch();
                }
                source.open(blob.bytes, blob.bytes.length - CHECK_BYTES);
                boolean isRead = blob.batch.readFrom(source);
                // ROWS written again show all at once: the shortest ways, whole runs, true bounds, the CHECK.
                again.clear();
                blob.batch.writeTo(again);
                blob.sound = isRead && again.holdsJust(blob.bytes);
            }
            return blob.sound;
        }
    }

    /** What a writer found to do as it STARTED, and how far it has come. */
    private static final class Plan {
        private final int[] removed = new int[MOST_OBJECTS];
        int removes;
        final Sink sink = new Sink();
        private final int[] ends = new int[MOST_OBJECTS];
        private final int[] partitions = new int[MOST_OBJECTS];
        private int outputs;
        private final int[] numbers = new int[MOST_OBJECTS];
        int puts;

        void clear() {
            removes = 0;
            sink.clear();
            outputs = 0;
            puts = 0;
        }

        boolean isEmpty() {
            return removes == 0 && outputs == 0;
        }

        int pending() {
            return outputs - puts;
        }

        void addRemoved(int number) {
            if (removes < removed.length) {
                removed[removes] = number;
                removes++;
            }
        }

        void addOutput(Batch batch) {
            if (outputs < ends.length && outputs < partitions.length) {
                batch.writeTo(sink);
                ends[outputs] = sink.filled;
                partitions[outputs] = batch.partition;
                outputs++;
            }
        }

        int startOf(int output) {
            return output <= 0 ? 0 : endOf(output - 1);
        }

        int endOf(int output) {
            return output < 0 || output >= outputs || output >= ends.length ? 0 : ends[output];
        }

        void notePut(int number) {
            if (puts < numbers.length) {
                numbers[puts] = number;
                puts++;
            }
        }

        void wantPut(Shelf data) {
            for (int k = 0; k < puts && k < numbers.length; k++) {
                data.want(numbers[k]);
            }
        }

        /** REMOVES are all of the writer's PARTITION; an APPEND, which has none, REMOVES nothing. */
        void writeEntry(Sink entry, int version, int partition) {
            entry.makePlace(LOG_HEAD + ACTION_BYTES * (removes + puts) + CHECK_BYTES);
            int from = entry.filled;
            entry.u1(ENTRY_MARK);
            entry.u4(version);
            entry.u1(removes + puts);
            for (int k = 0; k < removes && k < removed.length; k++) {
                entry.u1(REMOVE);
                entry.u4(removed[k]);
                entry.u1(partition);
            }
            for (int k = 0; k < puts && k < numbers.length && k < partitions.length; k++) {
                entry.u1(ADD);
                entry.u4(numbers[k]);
                entry.u1(partitions[k]);
            }
            entry.check(from);
        }
    }

    /** A WRITER: its latest work, at work or over. */
    private static final class Writer {
        boolean atWork;
        boolean started;
        boolean mustLook;
        int kind;
        int partition;
        int tries;
        int base = NONE;
        int lost;
        int version = NONE;
        int rows;
        private final int[] partitions = new int[MOST_APPENDED];
        private final int[] values = new int[COLUMNS * MOST_APPENDED];
        final Condition condition = new Condition();
        /** The FILES of its BASE as it STARTED. */
        final FileList files = new FileList();
        final Plan plan = new Plan();

        void becomeNew(int newKind, int newPartition, int newTries) {
            atWork = true;
            started = false;
            mustLook = false;
            kind = newKind;
            partition = newPartition;
            tries = newTries;
            base = NONE;
            lost = 0;
            rows = 0;
            files.clear();
            plan.clear();
        }

        private int rowsOf(int wanted) {
            int many = 0;
            for (int i = 0; i < rows && i < partitions.length; i++) {
                many += partitions[i] == wanted ? 1 : 0;
            }
            return many;
        }

        boolean takeRow(int ofPartition, int a, int b, int c) {
            if (rows >= MOST_APPENDED || rowsOf(ofPartition) >= MOST_ROWS) {
                return false;
            }
            partitions[rows] = ofPartition;
            values[COLUMNS * rows] = a;
            values[COLUMNS * rows + 1] = b;
            values[COLUMNS * rows + 2] = c;
            rows++;
            return true;
        }

        /** Adds its ROWS of the batch's PARTITION to it. */
        void copyRows(Batch to) {
            for (int i = 0; i < rows && i < partitions.length; i++) {
                if (partitions[i] == to.partition) {
                    to.addRow(values[COLUMNS * i], values[COLUMNS * i + 1], values[COLUMNS * i + 2]);
                }
            }
        }
    }
}
