import java.util.Arrays;
import java.util.zip.CRC32;

/**
 * A LakeTable under test, with what tests do with one over and over.
 * The document promises nothing behind the 512th call on an object, so a test that goes there is wrong itself.
 */
final class Lake {
    private static final int PROMISED_CALLS = 512;

    private final LakeTable table = new LakeTable();
    private int calls;

    private LakeTable counted() {
        calls++;
        if (calls > PROMISED_CALLS) {
            throw new IllegalStateException("this test makes more than " + PROMISED_CALLS + " calls on one object");
        }
        return table;
    }

    int calls() {
        return calls;
    }

    // ---------------------------------------------------------------- the face

    int room(int bytes) {
        return counted().room(bytes);
    }

    int tries(int n) {
        return counted().tries(n);
    }

    boolean append(int w) {
        return counted().append(w);
    }

    int row(int w, int partition, int a, int b, int c) {
        return counted().row(w, partition, a, b, c);
    }

    boolean delete(int w, int partition, int column, int what, int number) {
        return counted().delete(w, partition, column, what, number);
    }

    boolean compact(int w, int partition) {
        return counted().compact(w, partition);
    }

    int step(int w) {
        return counted().step(w);
    }

    boolean crash(int w) {
        return counted().crash(w);
    }

    int writer(int w, int what) {
        return counted().writer(w, what);
    }

    int checkpoint(int version) {
        return counted().checkpoint(version);
    }

    int vacuum(int n) {
        return counted().vacuum(n);
    }

    int latest() {
        return counted().latest();
    }

    int files(int version) {
        return counted().files(version);
    }

    int file(int version, int i) {
        return counted().file(version, i);
    }

    int at(int version, int i, int what) {
        return counted().at(version, i, what);
    }

    int find(int version, int column, int what, int number) {
        return counted().find(version, column, what, number);
    }

    int found(int what) {
        return counted().found(what);
    }

    int size(int sort, int number) {
        return counted().size(sort, number);
    }

    int octet(int sort, int number, int i) {
        return counted().octet(sort, number, i);
    }

    int spoil(int sort, int number, int i, int b) {
        return counted().spoil(sort, number, i, b);
    }

    int count(int what) {
        return counted().count(what);
    }

    // ---------------------------------------------------------------- writers

    /** The answers of so many steps, one behind the other. */
    String steps(int w, int many) {
        StringBuilder answers = new StringBuilder();
        for (int i = 0; i < many; i++) {
            answers.append(step(w));
        }
        return answers.toString();
    }

    /** The answers of all steps until the writer is over, or was not at work. */
    String finish(int w) {
        StringBuilder answers = new StringBuilder();
        int answer = 1;
        while (answer == 1 || answer == 2 || answer == 4 || answer == 5) {
            answer = step(w);
            answers.append(answer);
        }
        return answers.toString();
    }

    /** An APPEND that has not STARTED, of ROWS of one PARTITION with each of these VALUES in all three columns. */
    void begin(int w, int partition, int... values) {
        append(w);
        for (int v : values) {
            row(w, partition, v, v, v);
        }
    }

    /** Such an APPEND with all its steps. */
    String add(int w, int partition, int... values) {
        begin(w, partition, values);
        return finish(w);
    }

    /** A DELETE with all its steps. */
    String cut(int w, int partition, int column, int what, int number) {
        delete(w, partition, column, what, number);
        return finish(w);
    }

    /** Version v has FILES 0 to v, each of one ROW of PARTITION 0 with three VALUES of v: 40 bytes, ENTRIES of 16. */
    static Lake withVersions(int many) {
        Lake x = new Lake();
        for (int v = 0; v < many; v++) {
            x.add(0, 0, v);
        }
        return x;
    }

    // ---------------------------------------------------------------- a full store

    /** VALUES so far from each other that 4 bytes each are the shortest way. */
    private static int far(int i) {
        return i % 2 == 0 ? (1 << 30) + i : -(1 << 30) - i;
    }

    /** The VALUE that takes so many bytes when it stands alone. */
    private static int valueOf(int bytes) {
        return new int[] {Integer.MIN_VALUE, 1, 100, 10000, 1 << 20}[bytes];
    }

    /** An APPEND of one ROW: 53 to 65 bytes, 16 of them the ENTRY's. */
    String addBytes(int bytes) {
        int values = bytes - 53;
        append(1);
        row(1, 7, valueOf((values + 2) / 3), valueOf((values + 1) / 3), valueOf(values / 3));
        return finish(1);
    }

    /** Fills an empty store: DELETES that write most of a long FILE again, then short APPENDS. */
    void fillUpTo(int bytes) {
        append(0);
        for (int i = 0; i < 96; i++) {
            row(0, i % 2, far(i / 2), far(i / 2), far(i / 2));
        }
        finish(0);
        int left = bytes - count(1);
        for (int k = 0; left > 1000; k++) {
            cut(0, k % 2, 0, 2, far(47 - k / 2));
            left = bytes - count(1);
        }
        for (int many = (left + 29) / 59; many > 0; many--) {
            addBytes(left / many);
            left -= left / many;
        }
    }

    // ---------------------------------------------------------------- bytes

    byte[] bytes(int sort, int number) {
        byte[] all = new byte[Math.max(size(sort, number), 0)];
        for (int i = 0; i < all.length; i++) {
            all[i] = (byte) octet(sort, number, i);
        }
        return all;
    }

    String hex(int sort, int number) {
        return hex(bytes(sort, number));
    }

    static String hex(byte[] bytes) {
        StringBuilder text = new StringBuilder();
        for (byte b : bytes) {
            text.append(String.format("%02x", b & 255));
        }
        return text.toString();
    }

    static byte[] fromHex(String hex) {
        String digits = hex.replace(" ", "");
        byte[] bytes = new byte[digits.length() / 2];
        for (int i = 0; i < bytes.length; i++) {
            bytes[i] = (byte) Integer.parseInt(digits.substring(2 * i, 2 * i + 2), 16);
        }
        return bytes;
    }

    static int check(byte[] bytes, int end) {
        CRC32 crc = new CRC32();
        crc.update(bytes, 0, end);
        return (int) crc.getValue();
    }

    /** These bytes, their last four made the CHECK of those ahead. */
    static byte[] sealed(byte[] bytes) {
        byte[] all = bytes.clone();
        int end = all.length - 4;
        int check = check(all, end);
        for (int i = 0; i < 4; i++) {
            all[end + i] = (byte) (check >> (24 - 8 * i));
        }
        return all;
    }

    /** An ENTRY, of actions {kind, number, PARTITION}. */
    static byte[] entry(int version, int[][] actions) {
        StringBuilder hex = new StringBuilder(String.format("4c%08x%02x", version, actions.length));
        for (int[] a : actions) {
            hex.append(String.format("%02x%08x%02x", a[0], a[1], a[2]));
        }
        return sealed(fromHex(hex + "00000000"));
    }

    /** spoil() of those bytes of an OBJECT that are to become others. */
    void become(int sort, int number, byte[] was, byte[] to) {
        for (int i = 0; i < to.length; i++) {
            if (was[i] != to[i]) {
                spoil(sort, number, i, to[i]);
            }
        }
    }

    /** The bytes of an OBJECT become these, with their CHECK behind them; false where that is another size. */
    boolean forge(int sort, int number, String hex) {
        byte[] was = bytes(sort, number);
        byte[] to = sealed(fromHex(hex + "00000000"));
        if (was.length != to.length) {
            return false;
        }
        become(sort, number, was, to);
        return true;
    }

    /** Byte i becomes b, the next ones those behind, and the CHECK is right again. */
    void forge(int sort, int number, int i, int... b) {
        byte[] was = bytes(sort, number);
        byte[] to = Arrays.copyOf(was, was.length);
        for (int k = 0; k < b.length; k++) {
            to[i + k] = (byte) b[k];
        }
        become(sort, number, was, sealed(to));
    }
}
