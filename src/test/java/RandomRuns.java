import java.io.ByteArrayOutputStream;
import java.nio.BufferUnderflowException;
import java.nio.ByteBuffer;
import java.util.ArrayList;
import java.util.Arrays;
import java.util.List;
import java.util.Map;
import java.util.Random;
import java.util.TreeMap;
import java.util.TreeSet;
import java.util.zip.CRC32;

/**
 * Random runs of calls on a LakeTable and on a plain model of the document, whose answers must be the same.
 * The model is written for itself: it keeps nothing, finds everything anew, and uses the Java library.
 */
public final class RandomRuns {
    private static final int NONE = -1;
    private static final int MISSING = Integer.MIN_VALUE;
    private static final int DATA = 0;
    private static final int ENTRY = 1;
    private static final int CHECKPOINT = 2;
    private static final int PROMISED_CALLS = 512;

    private static int wrong = 0;
    private static long calls = 0;
    private static final Map<String, Integer> seen = new TreeMap<>();

    // ---------------------------------------------------------------- the model

    /** A row: PARTITION and three VALUES. */
    private record Row(int partition, int a, int b, int c) {
        int value(int column) {
            return column == 0 ? a : column == 1 ? b : c;
        }
    }

    private record Action(int kind, int number, int partition) { }

    private static final class Worker {
        boolean atWork;
        boolean started;
        boolean looks;
        int kind;
        int partition;
        int column;
        int what;
        int number;
        int tries;
        int base = NONE;
        int lost;
        int version = NONE;
        List<Row> rows = new ArrayList<>();
        List<List<Row>> todo = new ArrayList<>();
        List<Action> put = new ArrayList<>();
        List<Action> removes = new ArrayList<>();
        TreeSet<Integer> startFiles = new TreeSet<>();
    }

    private static byte[] sealed(ByteArrayOutputStream out) {
        CRC32 crc = new CRC32();
        crc.update(out.toByteArray());
        u4(out, (int) crc.getValue());
        return out.toByteArray();
    }

    private static void u4(ByteArrayOutputStream out, int x) {
        out.writeBytes(ByteBuffer.allocate(4).putInt(x).array());
    }

    private static byte[] plainWay(List<Integer> values) {
        ByteArrayOutputStream out = new ByteArrayOutputStream();
        values.forEach(v -> u4(out, v));
        return out.toByteArray();
    }

    private static byte[] runsWay(List<Integer> values) {
        ByteArrayOutputStream out = new ByteArrayOutputStream();
        int i = 0;
        while (i < values.size()) {
            int j = i;
            while (j < values.size() && values.get(j).equals(values.get(i))) {
                j++;
            }
            out.write(j - i);
            u4(out, values.get(i));
            i = j;
        }
        return out.toByteArray();
    }

    private static byte[] deltaWay(List<Integer> values) {
        ByteArrayOutputStream out = new ByteArrayOutputStream();
        for (int i = 0; i < values.size(); i++) {
            int x = i == 0 ? values.get(0) : values.get(i) - values.get(i - 1);
            int z = x + x;
            if (x < 0) {
                z = ~z;
            }
            long rest = Integer.toUnsignedLong(z);
            while (rest >= 128) {
                out.write((int) (rest % 128) + 128);
                rest /= 128;
            }
            out.write((int) rest);
        }
        return out.toByteArray();
    }

    static byte[] dataBytes(List<Row> rows) {
        ByteArrayOutputStream out = new ByteArrayOutputStream();
        out.write(84);
        out.write(rows.get(0).partition());
        out.write(rows.size());
        for (int column = 0; column < 3; column++) {
            List<Integer> there = new ArrayList<>();
            byte[] bits = new byte[(rows.size() + 7) / 8];
            for (int r = 0; r < rows.size(); r++) {
                int v = rows.get(r).value(column);
                if (v == MISSING) {
                    bits[r / 8] |= (byte) (1 << (7 - r % 8));
                } else {
                    there.add(v);
                }
            }
            List<byte[]> ways = List.of(plainWay(there), runsWay(there), deltaWay(there));
            int way = 0;
            for (int k = 1; k < 3; k++) {
                if (ways.get(k).length < ways.get(way).length) {
                    way = k;
                }
            }
            out.write(way);
            out.writeBytes(bits);
            out.writeBytes(ways.get(way));
            u4(out, there.stream().mapToInt(v -> v).min().orElse(0));
            u4(out, there.stream().mapToInt(v -> v).max().orElse(0));
        }
        return sealed(out);
    }

    private static List<Integer> readValues(ByteBuffer in, int way, int many) {
        List<Integer> values = new ArrayList<>();
        while (values.size() < many) {
            if (way == 0) {
                values.add(in.getInt());
            } else if (way == 1) {
                int run = in.get() & 255;
                int value = in.getInt();
                if (run == 0) {
                    return null;
                }
                for (int k = 0; k < run; k++) {
                    values.add(value);
                }
            } else {
                long z = 0;
                int shift = 0;
                int b;
                do {
                    b = in.get() & 255;
                    if (shift < 40) {
                        z += (long) (b & 127) << shift;
                    }
                    shift += 7;
                } while (b >= 128);
                int half = (int) (z / 2);
                int x = z % 2 == 0 ? half : ~half;
                values.add(values.isEmpty() ? x : values.get(values.size() - 1) + x);
            }
        }
        return values.size() == many ? values : null;
    }

    /** The ROWS that the bytes tell; null where they are DAMAGED. */
    static List<Row> dataRows(byte[] bytes) {
        try {
            ByteBuffer in = ByteBuffer.wrap(bytes);
            int mark = in.get();
            int partition = in.get() & 255;
            int many = in.get() & 255;
            if (mark != 84 || partition > 7 || many < 1 || many > 48) {
                return null;
            }
            int[][] table = new int[many][3];
            for (int column = 0; column < 3; column++) {
                int way = in.get() & 255;
                byte[] bits = new byte[(many + 7) / 8];
                in.get(bits);
                List<Integer> at = new ArrayList<>();
                for (int r = 0; r < many; r++) {
                    table[r][column] = MISSING;
                    if ((bits[r / 8] >> (7 - r % 8) & 1) == 0) {
                        at.add(r);
                    }
                }
                List<Integer> values = way > 2 ? null : readValues(in, way, at.size());
                if (values == null || values.contains(MISSING)) {
                    return null;
                }
                for (int k = 0; k < at.size(); k++) {
                    table[at.get(k)][column] = values.get(k);
                }
                in.getInt();
                in.getInt();
            }
            List<Row> rows = new ArrayList<>();
            for (int[] t : table) {
                rows.add(new Row(partition, t[0], t[1], t[2]));
            }
            return Arrays.equals(dataBytes(rows), bytes) ? rows : null;
        } catch (BufferUnderflowException e) {
            return null;
        }
    }

    static byte[] entryBytes(int version, List<Action> actions) {
        ByteArrayOutputStream out = new ByteArrayOutputStream();
        out.write(76);
        u4(out, version);
        out.write(actions.size());
        for (Action a : actions) {
            out.write(a.kind());
            u4(out, a.number());
            out.write(a.partition());
        }
        return sealed(out);
    }

    static byte[] checkpointBytes(int version, Map<Integer, Integer> files) {
        ByteArrayOutputStream out = new ByteArrayOutputStream();
        out.write(67);
        u4(out, version);
        out.write(files.size());
        files.forEach((number, partition) -> {
            u4(out, number);
            out.write(partition);
        });
        return sealed(out);
    }

    static List<Action> entryActions(int version, byte[] bytes) {
        try {
            ByteBuffer in = ByteBuffer.wrap(bytes);
            in.get();
            in.getInt();
            int many = in.get() & 255;
            List<Action> actions = new ArrayList<>();
            TreeMap<Integer, Action> removes = new TreeMap<>();
            TreeMap<Integer, Action> adds = new TreeMap<>();
            for (int k = 0; k < many; k++) {
                Action a = new Action(in.get() & 255, in.getInt(), in.get() & 255);
                if (a.kind() < 1 || a.kind() > 2 || a.number() < 0 || a.partition() > 7) {
                    return null;
                }
                (a.kind() == 2 ? removes : adds).put(a.number(), a);
            }
            actions.addAll(removes.values());
            actions.addAll(adds.values());
            return Arrays.equals(entryBytes(version, actions), bytes) ? actions : null;
        } catch (BufferUnderflowException e) {
            return null;
        }
    }

    static TreeMap<Integer, Integer> checkpointFiles(int version, byte[] bytes) {
        try {
            ByteBuffer in = ByteBuffer.wrap(bytes);
            in.get();
            in.getInt();
            int many = in.get() & 255;
            TreeMap<Integer, Integer> files = new TreeMap<>();
            for (int k = 0; k < many; k++) {
                int number = in.getInt();
                int partition = in.get() & 255;
                if (number < 0 || partition > 7) {
                    return null;
                }
                files.put(number, partition);
            }
            return Arrays.equals(checkpointBytes(version, files), bytes) ? files : null;
        } catch (BufferUnderflowException e) {
            return null;
        }
    }

    private static boolean such(int value, int what, int number) {
        return value != MISSING && (what == 0 ? value < number : what == 1 ? value >= number : value == number);
    }

    private static boolean maySuch(List<Row> rows, int column, int what, int number) {
        int[] there = rows.stream().mapToInt(r -> r.value(column)).filter(v -> v != MISSING).sorted().toArray();
        if (there.length == 0) {
            return false;
        }
        long least = there[0];
        long greatest = there[there.length - 1];
        return what == 0 ? least < number : what == 1 ? greatest >= number : least <= number && number <= greatest;
    }

    private static final class Model {
        final List<TreeMap<Integer, byte[]>> store = List.of(new TreeMap<>(), new TreeMap<>(), new TreeMap<>());
        final Worker[] workers = {new Worker(), new Worker(), new Worker(), new Worker()};
        int room = 6000;
        int tries = 3;
        int floor = 0;
        int next = 0;
        int commits = 0;
        int losses = 0;
        int failures = 0;
        int took = 0;
        int[] found = new int[4];

        int objects() {
            return store.stream().mapToInt(Map::size).sum();
        }

        int bytes() {
            return store.stream().flatMap(m -> m.values().stream()).mapToInt(b -> b.length).sum();
        }

        boolean put(int sort, int number, byte[] bytes) {
            if (store.get(sort).containsKey(number) || objects() >= 100 || bytes() + bytes.length > room) {
                return false;
            }
            store.get(sort).put(number, bytes);
            return true;
        }

        int room(int n) {
            if (n < 100 || n > 20000) {
                return NONE;
            }
            int was = room;
            room = n;
            return was;
        }

        int tries(int n) {
            if (n < 1 || n > 8) {
                return NONE;
            }
            int was = tries;
            tries = n;
            return was;
        }

        int latest() {
            return store.get(ENTRY).isEmpty() ? NONE : store.get(ENTRY).lastKey();
        }

        TreeMap<Integer, Integer> read(int version) {
            if (version == NONE) {
                return new TreeMap<>();
            }
            if (version > latest() || version < floor) {
                return null;
            }
            TreeMap<Integer, Integer> files = new TreeMap<>();
            int from = 0;
            for (int v : store.get(CHECKPOINT).headMap(version, true).descendingKeySet()) {
                TreeMap<Integer, Integer> told = checkpointFiles(v, store.get(CHECKPOINT).get(v));
                if (told != null) {
                    files = told;
                    from = v + 1;
                    break;
                }
            }
            for (int v = from; v <= version; v++) {
                byte[] bytes = store.get(ENTRY).get(v);
                List<Action> actions = bytes == null ? null : entryActions(v, bytes);
                if (actions == null) {
                    return null;
                }
                for (Action a : actions) {
                    if (a.kind() == 2) {
                        files.remove(a.number());
                    } else {
                        files.putIfAbsent(a.number(), a.partition());
                    }
                    if (files.size() > 200) {
                        return null;
                    }
                }
            }
            return files;
        }

        List<Row> fileRows(int number, int partition) {
            byte[] bytes = store.get(DATA).get(number);
            List<Row> rows = bytes == null ? null : dataRows(bytes);
            return rows == null || rows.get(0).partition() != partition ? null : rows;
        }

        boolean begin(int w, int kind) {
            if (w < 0 || w > 3 || workers[w].atWork) {
                return false;
            }
            int version = workers[w].version;
            workers[w] = new Worker();
            workers[w].atWork = true;
            workers[w].kind = kind;
            workers[w].version = version;
            workers[w].tries = tries;
            return true;
        }

        boolean append(int w) {
            return begin(w, 0);
        }

        int row(int w, int p, int a, int b, int c) {
            if (w < 0 || w > 3 || p < 0 || p > 7) {
                return NONE;
            }
            Worker k = workers[w];
            if (!k.atWork || k.kind != 0 || k.started || k.rows.size() == 96) {
                return NONE;
            }
            if (k.rows.stream().filter(r -> r.partition() == p).count() == 48) {
                return NONE;
            }
            k.rows.add(new Row(p, a, b, c));
            return k.rows.size();
        }

        boolean delete(int w, int p, int column, int what, int number) {
            if (p < 0 || p > 7 || column < 0 || column > 2 || what < 0 || what > 2 || !begin(w, 1)) {
                return false;
            }
            workers[w].partition = p;
            workers[w].column = column;
            workers[w].what = what;
            workers[w].number = number;
            return true;
        }

        boolean compact(int w, int p) {
            if (p < 0 || p > 7 || !begin(w, 2)) {
                return false;
            }
            workers[w].partition = p;
            return true;
        }

        int fail(Worker k, int reason) {
            k.atWork = false;
            failures++;
            return -reason;
        }

        int start(Worker k) {
            k.started = true;
            k.base = latest();
            TreeMap<Integer, Integer> files = read(k.base);
            if (files == null) {
                return fail(k, 4);
            }
            k.startFiles.addAll(files.keySet());
            if (k.kind == 0) {
                for (int p = 0; p < 8; p++) {
                    int partition = p;
                    List<Row> rows = k.rows.stream().filter(r -> r.partition() == partition).toList();
                    if (!rows.isEmpty()) {
                        k.todo.add(rows);
                    }
                }
            } else {
                TreeMap<Integer, List<Row>> mine = new TreeMap<>();
                for (Map.Entry<Integer, Integer> f : files.entrySet()) {
                    if (f.getValue() == k.partition) {
                        List<Row> rows = fileRows(f.getKey(), f.getValue());
                        if (rows == null) {
                            return fail(k, 4);
                        }
                        mine.put(f.getKey(), rows);
                    }
                }
                if (k.kind == 1) {
                    startDelete(k, mine);
                } else if (mine.size() > 1) {
                    startCompact(k, mine);
                }
            }
            if (k.todo.isEmpty() && k.removes.isEmpty()) {
                k.atWork = false;
                return 6;
            }
            return 1;
        }

        void startDelete(Worker k, TreeMap<Integer, List<Row>> mine) {
            mine.forEach((number, rows) -> {
                List<Row> left = rows.stream().filter(r -> !such(r.value(k.column), k.what, k.number)).toList();
                if (left.size() < rows.size()) {
                    k.removes.add(new Action(2, number, k.partition));
                    if (!left.isEmpty()) {
                        k.todo.add(left);
                    }
                }
            });
        }

        void startCompact(Worker k, TreeMap<Integer, List<Row>> mine) {
            List<Row> all = new ArrayList<>();
            mine.forEach((number, rows) -> {
                k.removes.add(new Action(2, number, k.partition));
                all.addAll(rows);
            });
            for (int i = 0; i < all.size(); i += 48) {
                k.todo.add(all.subList(i, Math.min(i + 48, all.size())));
            }
        }

        int step(int w) {
            if (w < 0 || w > 3 || !workers[w].atWork) {
                return 0;
            }
            Worker k = workers[w];
            if (!k.started) {
                return start(k);
            }
            if (k.looks) {
                k.looks = false;
                k.base++;
                byte[] bytes = store.get(ENTRY).get(k.base);
                List<Action> actions = bytes == null ? null : entryActions(k.base, bytes);
                if (actions == null) {
                    return fail(k, 4);
                }
                boolean touched = actions.stream().anyMatch(a -> a.partition() == k.partition);
                return k.kind != 0 && touched ? fail(k, 2) : 5;
            }
            if (!k.todo.isEmpty()) {
                List<Row> rows = k.todo.get(0);
                if (!put(DATA, next, dataBytes(rows))) {
                    return fail(k, 1);
                }
                k.todo.remove(0);
                k.put.add(new Action(1, next, rows.get(0).partition()));
                next++;
                return 2;
            }
            if (store.get(ENTRY).containsKey(k.base + 1)) {
                k.lost++;
                losses++;
                if (k.lost == k.tries) {
                    return fail(k, 3);
                }
                k.looks = true;
                return 4;
            }
            List<Action> actions = new ArrayList<>(k.removes);
            actions.addAll(k.put);
            if (!put(ENTRY, k.base + 1, entryBytes(k.base + 1, actions))) {
                return fail(k, 1);
            }
            k.atWork = false;
            k.version = k.base + 1;
            commits++;
            return 3;
        }

        boolean crash(int w) {
            if (w < 0 || w > 3 || !workers[w].atWork) {
                return false;
            }
            workers[w].atWork = false;
            return true;
        }

        int writer(int w, int what) {
            if (w < 0 || w > 3) {
                return NONE;
            }
            Worker k = workers[w];
            int[] all = {k.atWork ? 1 : 0, k.base, k.lost, k.put.size(), k.todo.size(), k.removes.size(), k.version};
            return what < 0 || what > 6 ? NONE : all[what];
        }

        int checkpoint(int version) {
            if (store.get(CHECKPOINT).containsKey(version)) {
                return 0;
            }
            TreeMap<Integer, Integer> files = version < 0 ? null : read(version);
            if (files == null) {
                return -1;
            }
            return put(CHECKPOINT, version, checkpointBytes(version, files)) ? 1 : -2;
        }

        int vacuum(int n) {
            if (n < 0 || n > 1000 || latest() == NONE) {
                return NONE;
            }
            int oldest = Math.max(floor, latest() - n);
            TreeSet<Integer> needed = new TreeSet<>();
            for (int v = oldest; v <= latest(); v++) {
                TreeMap<Integer, Integer> files = read(v);
                if (files == null) {
                    return NONE;
                }
                needed.addAll(files.keySet());
            }
            if (!store.get(CHECKPOINT).containsKey(oldest) && checkpoint(oldest) != 1) {
                return NONE;
            }
            int before = objects();
            if (checkpointFiles(oldest, store.get(CHECKPOINT).get(oldest)) != null) {
                floor = oldest;
                store.get(CHECKPOINT).headMap(oldest).clear();
                store.get(ENTRY).keySet().removeIf(v -> v < oldest && Arrays.stream(workers)
                    .noneMatch(k -> k.atWork && k.started && v > k.base));
            }
            for (Worker k : workers) {
                if (k.atWork) {
                    needed.addAll(k.startFiles);
                    k.put.forEach(a -> needed.add(a.number()));
                }
            }
            store.get(DATA).keySet().retainAll(needed);
            took += before - objects();
            return before - objects();
        }

        int files(int version) {
            TreeMap<Integer, Integer> files = read(version);
            return files == null ? NONE : files.size();
        }

        int file(int version, int i) {
            TreeMap<Integer, Integer> files = read(version);
            return files == null || i < 0 || i >= files.size() ? NONE : new ArrayList<>(files.keySet()).get(i);
        }

        int at(int version, int i, int what) {
            TreeMap<Integer, Integer> files = read(version);
            if (files == null || what < 0 || what > 3) {
                return NONE;
            }
            List<Row> all = new ArrayList<>();
            files.forEach((number, partition) -> {
                List<Row> rows = fileRows(number, partition);
                all.addAll(rows == null ? List.of() : rows);
            });
            if (i < 0 || i >= all.size()) {
                return NONE;
            }
            return what == 0 ? all.get(i).partition() : all.get(i).value(what - 1);
        }

        int find(int version, int column, int what, int number) {
            TreeMap<Integer, Integer> files = read(version);
            if (files == null || column < 0 || column > 2 || what < 0 || what > 2) {
                return NONE;
            }
            found = new int[4];
            int hits = 0;
            for (Map.Entry<Integer, Integer> f : files.entrySet()) {
                List<Row> rows = fileRows(f.getKey(), f.getValue());
                if (rows == null) {
                    found[2]++;
                } else if (!maySuch(rows, column, what, number)) {
                    found[1]++;
                } else {
                    found[0]++;
                    for (Row r : rows) {
                        if (such(r.value(column), what, number)) {
                            hits++;
                            found[3] += r.value(column);
                        }
                    }
                }
            }
            return hits;
        }

        int found(int what) {
            return what < 0 || what > 3 ? NONE : found[what];
        }

        byte[] object(int sort, int number) {
            return sort < 0 || sort > 2 ? null : store.get(sort).get(number);
        }

        int size(int sort, int number) {
            byte[] b = object(sort, number);
            return b == null ? NONE : b.length;
        }

        int octet(int sort, int number, int i) {
            byte[] b = object(sort, number);
            return b == null || i < 0 || i >= b.length ? NONE : b[i] & 255;
        }

        int spoil(int sort, int number, int i, int x) {
            int was = octet(sort, number, i);
            if (was != NONE) {
                object(sort, number)[i] = (byte) x;
            }
            return was;
        }

        int count(int what) {
            int[] all = {objects(), bytes(), next, store.get(CHECKPOINT).size(), commits, losses, failures, took};
            return what < 0 || what > 7 ? NONE : all[what];
        }
    }

    // ---------------------------------------------------------------- the runs

    /** One run: each method makes one call on both and compares. */
    private static final class Run {
        final int name;
        final Random dice;
        final LakeTable table = new LakeTable();
        final Model model = new Model();
        final List<String> told = new ArrayList<>();
        boolean failed;

        Run(int name) {
            this.name = name;
            dice = new Random(name);
        }

        int same(String call, int got, int want) {
            if (told.size() == PROMISED_CALLS) {
                return want;
            }
            calls++;
            told.add(call + " = " + want);
            if (got != want && !failed) {
                failed = true;
                wrong++;
                System.out.println("run " + name + ": " + call + " answered " + got + ", due is " + want);
                if (wrong == 1) {
                    told.forEach(System.out::println);
                }
            }
            return want;
        }

        int same(String call, boolean got, boolean want) {
            return same(call, got ? 1 : 0, want ? 1 : 0);
        }

        void step(int w) {
            int s = same("step(" + w + ")", table.step(w), model.step(w));
            seen.merge("step " + s, 1, Integer::sum);
        }

        void spoil(int sort, int number, int i, int b) {
            same("spoil(" + sort + "," + number + "," + i + "," + b + ")", table.spoil(sort, number, i, b),
                model.spoil(sort, number, i, b));
        }

        int number() {
            int[] edges = {0, 1, -1, 63, 64, -64, -65, 8191, 8192, 1 << 20, 1 << 27, -(1 << 27) - 1, 1 << 30,
                Integer.MAX_VALUE, Integer.MIN_VALUE + 1, MISSING};
            int kind = dice.nextInt(10);
            return kind < 6 ? dice.nextInt(12) : kind < 7 ? edges[dice.nextInt(edges.length)]
                : kind < 8 ? MISSING : kind < 9 ? dice.nextInt(1000) - 500 : dice.nextInt();
        }

        int version() {
            return model.latest() + 1 - dice.nextInt(model.latest() + 4);
        }

        int writer() {
            return dice.nextInt(20) == 0 ? dice.nextInt(7) - 1 : dice.nextInt(4);
        }

        int partition() {
            int kind = dice.nextInt(20);
            return kind == 0 ? dice.nextInt(11) - 1 : kind < 14 ? dice.nextInt(2) : dice.nextInt(8);
        }

        int[] anyObject() {
            List<int[]> all = new ArrayList<>();
            for (int sort = 0; sort < 3; sort++) {
                for (int number : model.store.get(sort).keySet()) {
                    all.add(new int[] {sort, number});
                }
            }
            return all.isEmpty() ? new int[] {0, 0} : all.get(dice.nextInt(all.size()));
        }

        /** All bytes of an object become these, of the same length. */
        void forge(int sort, int number, byte[] bytes) {
            byte[] now = model.object(sort, number);
            if (now == null || now.length != bytes.length) {
                return;
            }
            seen.merge("forged " + sort, 1, Integer::sum);
            for (int i = 0; i < bytes.length; i++) {
                if (now[i] != bytes[i]) {
                    spoil(sort, number, i, bytes[i]);
                }
            }
        }

        byte[] reseal(byte[] bytes) {
            ByteArrayOutputStream out = new ByteArrayOutputStream();
            out.write(bytes, 0, bytes.length - 4);
            return sealed(out);
        }

        void forgeBytes() {
            int[] o = anyObject();
            byte[] now = model.object(o[0], o[1]);
            if (now == null) {
                return;
            }
            byte[] other = now.clone();
            int i = dice.nextInt(other.length - 4);
            other[i] = (byte) (dice.nextBoolean() ? dice.nextInt(256) : other[i] + dice.nextInt(5) - 2);
            forge(o[0], o[1], reseal(other));
        }

        void forgeRows() {
            int number = dice.nextInt(model.next + 1);
            byte[] now = model.object(DATA, number);
            List<Row> rows = now == null ? null : dataRows(now);
            if (rows == null) {
                return;
            }
            List<Row> others = new ArrayList<>(rows);
            if (dice.nextInt(4) == 0) {
                int p = dice.nextInt(8);
                others.replaceAll(r -> new Row(p, r.a(), r.b(), r.c()));
            } else {
                int k = dice.nextInt(others.size());
                Row r = others.get(k);
                others.set(k, new Row(r.partition(), r.a() ^ dice.nextInt(4), r.b(), r.c() ^ dice.nextInt(4)));
            }
            forge(DATA, number, dataBytes(others));
        }

        void forgeLog() {
            if (dice.nextBoolean() && !model.store.get(ENTRY).isEmpty()) {
                int v = model.store.get(ENTRY).firstKey() + dice.nextInt(model.store.get(ENTRY).size());
                byte[] now = model.object(ENTRY, v);
                List<Action> actions = now == null ? null : entryActions(v, now);
                if (actions != null) {
                    List<Action> others = new ArrayList<>(actions);
                    int k = dice.nextInt(others.size());
                    Action a = others.get(k);
                    others.set(k, new Action(1 + dice.nextInt(2), dice.nextInt(model.next + 2),
                        dice.nextInt(3) == 0 ? dice.nextInt(8) : a.partition()));
                    forge(ENTRY, v, entryBytes(v, others));
                }
            } else if (!model.store.get(CHECKPOINT).isEmpty()) {
                int v = model.store.get(CHECKPOINT).firstKey();
                TreeMap<Integer, Integer> files = checkpointFiles(v, model.object(CHECKPOINT, v));
                if (files != null && !files.isEmpty()) {
                    files.remove(files.firstKey());
                    files.put(dice.nextInt(model.next + 3), dice.nextInt(8));
                    forge(CHECKPOINT, v, checkpointBytes(v, files));
                }
            }
        }

        void begin() {
            int w = writer();
            int kind = dice.nextInt(8);
            if (kind < 4) {
                same("append(" + w + ")", table.append(w), model.append(w));
                int rows = dice.nextInt(12) == 0 ? 60 : dice.nextInt(6);
                int shape = dice.nextInt(4);
                int fixed = number();
                for (int i = 0; i < rows; i++) {
                    row(w, shape == 3 ? partition() : dice.nextInt(20) / 19, shape == 0 ? fixed : number(),
                        shape == 1 ? fixed + i * 3 : shape == 2 ? fixed + i / 5 : number(),
                        shape == 2 ? MISSING : number());
                }
            } else if (kind < 6) {
                int p = partition();
                int column = dice.nextInt(20) == 0 ? dice.nextInt(5) - 1 : dice.nextInt(3);
                int what = dice.nextInt(20) == 0 ? dice.nextInt(5) - 1 : dice.nextInt(3);
                int n = number();
                same("delete(" + w + "," + p + "," + column + "," + what + "," + n + ")",
                    table.delete(w, p, column, what, n), model.delete(w, p, column, what, n));
            } else {
                int p = partition();
                same("compact(" + w + "," + p + ")", table.compact(w, p), model.compact(w, p));
            }
        }

        void row(int w, int p, int a, int b, int c) {
            same("row(" + w + "," + p + "," + a + "," + b + "," + c + ")", table.row(w, p, a, b, c),
                model.row(w, p, a, b, c));
        }

        void finish(int w) {
            for (int i = 0; i < 12 && model.writer(w, 0) == 1; i++) {
                step(w);
            }
        }

        void ask() {
            int v = version();
            int i = dice.nextInt(12) - 1;
            int column = dice.nextInt(20) == 0 ? dice.nextInt(5) - 1 : dice.nextInt(3);
            int what = dice.nextInt(20) == 0 ? dice.nextInt(5) - 1 : dice.nextInt(3);
            int n = number();
            switch (dice.nextInt(5)) {
                case 0 -> same("files(" + v + ")", table.files(v), model.files(v));
                case 1 -> same("file(" + v + "," + i + ")", table.file(v, i), model.file(v, i));
                case 2 -> {
                    int field = dice.nextInt(6) - 1;
                    int r = dice.nextInt(3) == 0 ? dice.nextInt(100) : i;
                    same("at(" + v + "," + r + "," + field + ")", table.at(v, r, field), model.at(v, r, field));
                }
                default -> {
                    same("find(" + v + "," + column + "," + what + "," + n + ")",
                        table.find(v, column, what, n), model.find(v, column, what, n));
                    for (int k = -1; k < 5; k++) {
                        same("found(" + k + ")", table.found(k), model.found(k));
                    }
                }
            }
        }

        void rare() {
            int v = version();
            switch (dice.nextInt(10)) {
                case 0, 1, 2 -> {
                    int c = same("checkpoint(" + v + ")", table.checkpoint(v), model.checkpoint(v));
                    seen.merge("checkpoint " + c, 1, Integer::sum);
                }
                case 3, 4 -> {
                    int n = dice.nextInt(8) == 0 ? dice.nextInt(1100) - 50 : dice.nextInt(5);
                    int c = same("vacuum(" + n + ")", table.vacuum(n), model.vacuum(n));
                    seen.merge("vacuum " + (c < 1 ? "" + c : "took"), 1, Integer::sum);
                }
                case 5 -> {
                    int n = dice.nextInt(4) == 0 ? model.bytes() + dice.nextInt(80) : dice.nextInt(12000);
                    same("room(" + n + ")", table.room(n), model.room(n));
                }
                case 6 -> {
                    int n = dice.nextInt(11) - 1;
                    same("tries(" + n + ")", table.tries(n), model.tries(n));
                }
                case 7 -> {
                    int w = writer();
                    same("crash(" + w + ")", table.crash(w), model.crash(w));
                }
                default -> {
                    int w = writer();
                    finish(w < 0 || w > 3 ? 0 : w);
                }
            }
        }

        void hurt() {
            switch (dice.nextInt(5)) {
                case 0 -> {
                    int[] o = anyObject();
                    int i = dice.nextInt(50) - 1;
                    int was = model.octet(o[0], o[1], i);
                    spoil(o[0], o[1], i, dice.nextInt());
                    if (dice.nextInt(3) > 0) {
                        ask();
                        spoil(o[0], o[1], i, was);
                    }
                }
                case 1 -> forgeBytes();
                case 2, 3 -> forgeRows();
                default -> forgeLog();
            }
        }

        void small() {
            for (int w = -1; w < 5; w++) {
                for (int what = -1; what < 8; what++) {
                    same("writer(" + w + "," + what + ")", table.writer(w, what), model.writer(w, what));
                }
            }
            for (int what = -1; what < 9; what++) {
                same("count(" + what + ")", table.count(what), model.count(what));
            }
            same("latest()", table.latest(), model.latest());
        }

        /** One answer that tells of the state, wherever it may be. */
        void look() {
            int[] o = anyObject();
            int number = o[1] + dice.nextInt(9) / 8;
            int sort = o[0] + dice.nextInt(25) / 24;
            int v = version();
            int i = dice.nextInt(60) - 1;
            int what = dice.nextInt(10) - 1;
            int w = writer();
            switch (dice.nextInt(8)) {
                case 0 -> same("size(" + sort + "," + number + ")", table.size(sort, number), model.size(sort, number));
                case 1 -> same("files(" + v + ")", table.files(v), model.files(v));
                case 2 -> same("file(" + v + "," + i % 12 + ")", table.file(v, i % 12), model.file(v, i % 12));
                case 3 -> same("count(" + what + ")", table.count(what), model.count(what));
                case 4 -> same("writer(" + w + "," + what + ")", table.writer(w, what), model.writer(w, what));
                default -> same("octet(" + sort + "," + number + "," + i + ")", table.octet(sort, number, i),
                    model.octet(sort, number, i));
            }
        }

        void appendRows(int w, int p, int rows) {
            same("append(" + w + ")", table.append(w), model.append(w));
            for (int i = 0; i < rows; i++) {
                row(w, p, i / 4, number(), i);
            }
            finish(w);
        }

        /** What random calls alone seldom come to. */
        void prepare(int shape) {
            if (shape == 1) {
                // Long FILES of one PARTITION: what a COMPACT makes of them are several DATA objects.
                same("room(20000)", table.room(20000), model.room(20000));
                for (int k = 0; k < 4; k++) {
                    appendRows(k % 4, 0, 20 + dice.nextInt(29));
                }
                same("compact(1,0)", table.compact(1, 0), model.compact(1, 0));
            } else if (shape == 2) {
                // As many OBJECTS as a store may have, or nearly.
                int many = 44 + dice.nextInt(6);
                for (int k = 0; k < many; k++) {
                    appendRows(k % 4, dice.nextInt(3), 1);
                }
            } else if (shape == 3) {
                // All writers at work on one BASE, with TRIES enough to look at all that the others commit.
                same("tries(8)", table.tries(8), model.tries(8));
                appendRows(0, 0, 2);
                appendRows(0, 1, 2);
                for (int k = 0; k < 6; k++) {
                    contend();
                }
            }
        }

        void contend() {
            for (int w = 0; w < 4; w++) {
                int p = dice.nextInt(4);
                if (dice.nextInt(3) > 0) {
                    same("append(" + w + ")", table.append(w), model.append(w));
                    row(w, p, w, p, 0);
                } else if (dice.nextBoolean()) {
                    same("delete(" + w + "," + p + ",0,2," + w + ")", table.delete(w, p, 0, 2, w),
                        model.delete(w, p, 0, 2, w));
                } else {
                    same("compact(" + w + "," + p + ")", table.compact(w, p), model.compact(w, p));
                }
                step(w);
            }
            for (int i = 0; i < 14; i++) {
                step(dice.nextInt(4));
            }
            if (dice.nextBoolean()) {
                int n = dice.nextInt(3);
                same("vacuum(" + n + ")", table.vacuum(n), model.vacuum(n));
            }
        }

        /** So many calls that change things or ask, then looks until nothing more is promised. */
        void go(int many, int harm) {
            int end = Math.min(told.size() + many, PROMISED_CALLS - 80);
            while (told.size() < end && !failed) {
                int kind = dice.nextInt(100);
                if (kind < 18) {
                    begin();
                } else if (kind < 60) {
                    step(writer());
                } else if (kind < 72) {
                    ask();
                } else if (kind < 88) {
                    rare();
                } else if (kind < 88 + harm) {
                    hurt();
                } else {
                    look();
                }
            }
            small();
            while (told.size() < PROMISED_CALLS && !failed) {
                look();
            }
        }
    }

    public static void main(String[] args) {
        int runs = args.length > 0 ? Integer.parseInt(args[0]) : 6000;
        for (int r = 0; r < runs; r++) {
            Run run = new Run(r);
            run.prepare(Math.max(r % 7 - 3, 0));
            run.go(60 + r % 5 * 85, r % 3 * 4);
        }
        System.out.println(calls + " calls; " + seen);
        System.out.println(wrong == 0 ? "all answers are as due" : wrong + " runs have answers that are not as due");
        if (wrong != 0) {
            System.exit(1);
        }
    }
}
