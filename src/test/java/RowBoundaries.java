import java.util.Arrays;

/** The boundary cases that "II. ROWS" names: how many ROWS, MISSING ones, the three ways, the bounds. */
public final class RowBoundaries extends Suite {
    private static final int BIG = 1 << 30;
    /** A column of three ROWS that are all MISSING. */
    private static final String EMPTY = "00 e0 00000000 00000000 ";

    // ---------------------------------------------------------------- what is written

    /** DATA 0 has these VALUES in column 0; the other columns are MISSING. */
    private static Lake withColumn(int... values) {
        Lake x = new Lake();
        x.append(0);
        for (int v : values) {
            x.row(0, 0, v, MISSING, MISSING);
        }
        due("steps", x.finish(0), "123");
        return x;
    }

    private static void column(String want, int... values) {
        Lake x = withColumn(values);
        String hex = x.hex(DATA, 0);
        String digits = want.replace(" ", "");
        due("column of " + values.length, hex.substring(6, Math.min(hex.length(), 6 + digits.length())), digits);
        int bits = (values.length + 7) / 8;
        due("size", x.size(DATA, 0), 3 + digits.length() / 2 + 2 * (1 + bits + 8) + 4);
        for (int i = 0; i < values.length; i++) {
            due("row " + i, x.at(0, i, 1), values[i]);
        }
    }

    private static int[] times(int many, int value) {
        int[] all = new int[many];
        Arrays.fill(all, value);
        return all;
    }

    private static void oneRow() {
        Lake x = withColumn(7);
        due("bytes", x.hex(DATA, 0).substring(0, 32), "540001" + "02000e" + "0000000700000007" + "0080");
        due("row 0", x.at(0, 0, 1), 7);
        due("row 1", x.at(0, 1, 1), NONE);
        due("ROWS", x.octet(DATA, 0, 2), 1);
    }

    private static void mostRows() {
        Lake x = withColumn(times(48, 7));
        due("ROWS", x.octet(DATA, 0, 2), 48);
        due("row 47", x.at(0, 47, 1), 7);
        due("row 48", x.at(0, 48, 1), NONE);
    }

    private static void rowsInOrder() {
        Lake x = withColumn(3, 1, 2, MISSING, 1);
        int[] rows = {3, 1, 2, MISSING, 1};
        for (int i = 0; i < rows.length; i++) {
            due("row " + i, x.at(0, i, 1), rows[i]);
        }
    }

    private static void missingBits() {
        column("02 80 02 00000001 00000001", MISSING, 1);
        column("02 40 02 00000001 00000001", 1, MISSING);
        column("01 01 0700000001 00000001 00000001", 1, 1, 1, 1, 1, 1, 1, MISSING);
        column("01 0080 0800000001 00000001 00000001", 1, 1, 1, 1, 1, 1, 1, 1, MISSING);
        column("01 8000 0800000001 00000001 00000001", MISSING, 1, 1, 1, 1, 1, 1, 1, 1);
    }

    private static void bitsFilledUp() {
        column("00 80 00000000 00000000", MISSING);
        column("00 fe 00000000 00000000", times(7, MISSING));
        column("00 ff 00000000 00000000", times(8, MISSING));
        column("00 ff80 00000000 00000000", times(9, MISSING));
        column("00 fffe 00000000 00000000", times(15, MISSING));
        column("00 ffff 00000000 00000000", times(16, MISSING));
        column("00 ffffffffff80 00000000 00000000", times(41, MISSING));
        column("00 ffffffffffff 00000000 00000000", times(48, MISSING));
    }

    private static void fewestBytes() {
        column("00 00 40000000 c0000000 c0000000 40000000", BIG, -BIG);
        column("01 00 0240000000 40000000 40000000", BIG, BIG);
        column("02 00 0202 00000001 00000002", 1, 2);
        column("02 00 feff7f 000fffff 000fffff", (1 << 20) - 1);
        column("02 00 feff7f00 000fffff 000fffff", (1 << 20) - 1, (1 << 20) - 1);
        column("01 00 0340000000 01c0000000 0140000001 01bfffffff bfffffff 40000001",
            BIG, BIG, BIG, -BIG, BIG + 1, -BIG - 1);
    }

    private static void ofSeveralTheLeast() {
        column("00 80 00000000 00000000", MISSING);
        column("00 00 00100000 00100000 00100000", 1 << 20);
        column("01 00 0200100000 00100000 00100000", 1 << 20, 1 << 20);
        column("00 00 40000000 40000000 c0000000 40000001 bfffffff bfffffff 40000001",
            BIG, BIG, -BIG, BIG + 1, -BIG - 1);
        column("00 00 00100000 00100000 c0000000 40000001 bfffffff bfffffff 40000001",
            1 << 20, 1 << 20, -BIG, BIG + 1, -BIG - 1);
    }

    private static void runs() {
        column("01 000000000000 3040000000 40000000 40000000", times(48, BIG));
        column("01 40 0240000000 40000000 40000000", BIG, MISSING, BIG);
        column("01 20 0240000000 02c0000000 c0000000 40000000", BIG, BIG, MISSING, -BIG, -BIG);
        column("01 00 0240000000 02c0000000 0240000000 c0000000 40000000", BIG, BIG, -BIG, -BIG, BIG, BIG);
    }

    private static void goingRound() {
        column("02 00 feffffff0f 04 03 80000001 7fffffff", MAX, -MAX, MAX);
        column("02 00 ffffffff07 ffffffff0f 02 02 02 02 c0000000 40000004",
            -BIG, BIG, BIG + 1, BIG + 2, BIG + 3, BIG + 4);
        column("02 40 feffffff0f 04 02 80000001 7fffffff", MAX, MISSING, -MAX, -MAX + 1);
    }

    private static void bounds() {
        column("02 00 091005 fffffffb 00000003", -5, 3, 0);
        column("02 00 feffffff0f 04 80000001 7fffffff", MAX, -MAX);
        column("02 80 0e 00000007 00000007", MISSING, 7);
        column("02 40 0d fffffff9 fffffff9", -7, MISSING);
        column("00 c0 00000000 00000000", MISSING, MISSING);
    }

    // ---------------------------------------------------------------- what is DAMAGED though its CHECK is right

    /** Three ROWS whose column 0 becomes other bytes. */
    private static void told(boolean isSound, String columnBytes, int... values) {
        Lake x = withColumn(values);
        due("the bytes fit: " + columnBytes, x.forge(DATA, 0, "540003" + columnBytes + EMPTY + EMPTY), true);
        due("sound: " + columnBytes, x.at(0, 0, 0) == 0, isSound);
        due("found(2)", x.find(0, 0, 1, MISSING) == NONE ? NONE : x.found(2), isSound ? 0 : 1);
    }

    private static void runsAsLongAsTheyGo() {
        told(true, "01 00 0240000000 01c0000000 c0000000 40000000", BIG, BIG, -BIG);
        told(true, "01 00 0140000000 02c0000000 c0000000 40000000", BIG, BIG, -BIG);
        told(false, "01 00 0140000000 0240000000 40000000 40000000", BIG, BIG, -BIG);
        told(false, "01 00 0240000000 0140000000 40000000 40000000", BIG, BIG, -BIG);
        told(false, "01 00 0340000000 0040000000 40000000 40000000", BIG, BIG, -BIG);
        told(false, "01 00 0040000000 03c0000000 c0000000 c0000000", BIG, BIG, -BIG);
        told(false, "01 00 0240000000 02c0000000 c0000000 40000000", BIG, BIG, -BIG);
        told(false, "01 00 0140000000 01c0000000 c0000000 40000000", BIG, BIG, -BIG);
        told(false, "01 00 0240000000 ffc0000000 c0000000 40000000", BIG, BIG, -BIG);
    }

    private static void anotherWay() {
        told(true, "00 60 00100000 00100000 00100000", 1 << 20, MISSING, MISSING);
        told(false, "02 60 80808001 00100000 00100000", 1 << 20, MISSING, MISSING);
        told(false, "03 60 00100000 00100000 00100000", 1 << 20, MISSING, MISSING);
        told(false, "ff 60 00100000 00100000 00100000", 1 << 20, MISSING, MISSING);
        told(false, "00 60 000fffff 000fffff 000fffff", 1 << 20, MISSING, MISSING);
        told(false, "02 20 8080800100 00100000 00100000", 1 << 20, 1 << 20, MISSING);
        told(false, "01 e0 00000000 00000000", MISSING, MISSING, MISSING);
        told(false, "02 e0 00000000 00000000", MISSING, MISSING, MISSING);
    }

    private static void otherVarints() {
        told(true, "02 60 8201 00000041 00000041", 64, MISSING, MISSING);
        told(false, "02 60 8000 00000000 00000000", 64, MISSING, MISSING);
        told(false, "02 60 8080 00000000 00000000", 64, MISSING, MISSING);
        told(true, "02 00 feffffff0f 0102 7ffffffe 7fffffff", MAX, MAX - 1, MAX);
        told(false, "02 00 feffffff1f 0102 7ffffffe 7fffffff", MAX, MAX - 1, MAX);
        told(false, "02 00 feffffff8f 0002 7ffffffe 7fffffff", MAX, MAX - 1, MAX);
    }

    private static void otherBits() {
        told(true, "02 60 0e 00000007 00000007", 7, MISSING, MISSING);
        told(true, "02 c0 0e 00000007 00000007", 7, MISSING, MISSING);
        told(false, "02 70 0e 00000007 00000007", 7, MISSING, MISSING);
        told(false, "02 61 0e 00000007 00000007", 7, MISSING, MISSING);
        told(false, "02 40 0e 00000007 00000007", 7, MISSING, MISSING);
        told(false, "02 e0 0e 00000007 00000007", 7, MISSING, MISSING);
    }

    private static void otherBounds() {
        told(true, "02 00 091005 fffffffb 00000003", -5, 3, 0);
        told(false, "02 00 091005 fffffffa 00000003", -5, 3, 0);
        told(false, "02 00 091005 fffffffc 00000003", -5, 3, 0);
        told(false, "02 00 091005 fffffffb 00000002", -5, 3, 0);
        told(false, "02 00 091005 fffffffb 00000004", -5, 3, 0);
        told(false, "02 00 091005 00000003 fffffffb", -5, 3, 0);
        told(true, "00 e0 00000000 00000000", MISSING, MISSING, MISSING);
        told(false, "00 e0 00000000 00000001", MISSING, MISSING, MISSING);
        told(false, "00 e0 80000000 00000000", MISSING, MISSING, MISSING);
    }

    private static void theLeastInt() {
        told(true, "00 60 7fffffff 7fffffff 7fffffff", 1 << 20, MISSING, MISSING);
        told(true, "00 60 80000001 80000001 80000001", 1 << 20, MISSING, MISSING);
        told(false, "00 60 80000000 80000000 80000000", 1 << 20, MISSING, MISSING);
        told(false, "00 60 80000000 00000000 00000000", 1 << 20, MISSING, MISSING);
        told(true, "02 00 fdffffff0f 0201 80000001 80000002", MAX, MAX - 1, MAX);
        told(false, "02 00 fdffffff0f 0102 80000000 80000001", MAX, MAX - 1, MAX);
    }

    private static void otherMarkOrRows() {
        int[][] cases = {{84, 3, 0xe0, 1}, {85, 3, 0xe0, 0}, {76, 3, 0xe0, 0}, {84, 1, 0x80, 1}, {84, 0, 0, 0},
            {84, 2, 0xe0, 0}, {84, 4, 0xe0, 0}, {84, 4, 0xf0, 1}, {84, 8, 0xff, 1}, {84, 9, 0xff, 0},
            {84, 255, 0xff, 0}};
        for (int[] c : cases) {
            Lake x = withColumn(MISSING, MISSING, MISSING);
            String empty = String.format("00%02x0000000000000000", c[2]);
            x.forge(DATA, 0, String.format("%02x00%02x", c[0], c[1]) + empty + empty + empty);
            due("mark " + c[0] + ", " + c[1] + " ROWS", x.at(0, 0, 0), c[3] == 1 ? 0 : NONE);
        }
    }

    private static void bytesBehind() {
        Lake x = withColumn(1 << 20, MISSING, MISSING);
        due("fits", x.forge(DATA, 0, "540003" + EMPTY + EMPTY + EMPTY + "00000000"), true);
        due("4 bytes that tell nothing", x.at(0, 0, 0), NONE);
        x = withColumn(1 << 20, MISSING, MISSING);
        due("fits", x.forge(DATA, 0, "540003" + "00 20 00100000 00100000 00100000 00100000" + EMPTY
            + "00 e0 00000000"), true);
        due("4 bytes too few", x.at(0, 0, 0), NONE);
    }

    /** Four ROWS become three, and four again. */
    private static void otherRowsThanBefore() {
        Lake x = withColumn(1, 2, 3, 9);
        due("4 ROWS", x.find(0, 0, 1, 0), 4);
        String others = "00f00000000000000000";
        due("fits", x.forge(DATA, 0, "540003" + "02 00 80010202 00000040 00000042" + EMPTY + EMPTY), true);
        due("3 ROWS", x.find(0, 0, 1, 0), 3);
        due("sum", x.found(3), 64 + 65 + 66);
        due("row 2", x.at(0, 2, 1), 66);
        due("row 3", x.at(0, 3, 1), NONE);
        due("fits", x.forge(DATA, 0, "540004" + "02 00 02020202 00000001 00000004" + others + others), true);
        due("4 ROWS", x.find(0, 0, 1, 0), 4);
        due("sum", x.found(3), 10);
    }

    /** 70 bytes: two columns of one run, and one of 40 MISSING and 8 VARINTS. */
    private static void fortyNineRows() {
        for (int rows = 48; rows <= 49; rows++) {
            Lake x = new Lake();
            x.append(0);
            for (int i = 0; i < 48; i++) {
                x.row(0, 0, BIG, BIG, i < 8 ? i % 2 : MISSING);
            }
            x.finish(0);
            due("size", x.size(DATA, 0), 70);
            String bits = rows == 48 ? "000000000000" : "00000000000000";
            String column = "01" + bits + String.format("%02x", rows) + "40000000" + "40000000" + "40000000";
            String last = rows == 49 ? column : "02" + "00ffffffffff" + "0002010201020102" + "00000000" + "00000001";
            due("fits", x.forge(DATA, 0, "5400" + String.format("%02x", rows) + column + column + last), true);
            due(rows + " ROWS", x.at(0, 47, 1), rows == 48 ? BIG : NONE);
            due("DAMAGED", x.find(0, 0, 1, 0) == NONE ? NONE : x.found(2), rows - 48);
        }
    }

    private static void partitions() {
        for (int p : new int[] {0, 7}) {
            Lake x = new Lake();
            x.add(0, p, 1);
            due("PARTITION", x.octet(DATA, 0, 1), p);
            due("PARTITION", x.at(0, 0, 0), p);
        }
        Lake x = new Lake();
        x.add(0, 0, 1);
        x.forge(DATA, 0, 1, 8);
        due("PARTITION 8", x.at(0, 0, 0), NONE);
        x.forge(DATA, 0, 1, 7);
        x.forge(ENTRY, 0, 11, 7);
        due("PARTITION 7, as the log tells it", x.at(0, 0, 0), 7);
    }

    public static void main(String[] args) {
        sentence("ROWS have a PARTITION (0 to 7)", RowBoundaries::partitions);
        sentence("A DATA object has the ROWS of one PARTITION, 1", RowBoundaries::oneRow);
        sentence("to 48", RowBoundaries::mostRows);
        sentence("to 48: not 49", RowBoundaries::fortyNineRows);
        sentence("in order", RowBoundaries::rowsInOrder);
        sentence("U1 84, U1 PARTITION, U1 how many", RowBoundaries::otherMarkOrRows);
        sentence("U1 how many: other ROWS than before", RowBoundaries::otherRowsThanBefore);
        sentence("bits of which are MISSING (1: it is), the first row's the highest", RowBoundaries::missingBits);
        sentence("filled up to whole bytes by 0", RowBoundaries::bitsFilledUp);
        sentence("filled up to whole bytes by 0: not by 1", RowBoundaries::otherBits);
        sentence("The way is the one by which the VALUES take the fewest bytes", RowBoundaries::fewestBytes);
        sentence("of several the least", RowBoundaries::ofSeveralTheLeast);
        sentence("of several the least: not another", RowBoundaries::anotherWay);
        sentence("1 runs of like ones: U1 how many, U4", RowBoundaries::runs);
        sentence("(each as long as it goes)", RowBoundaries::runsAsLongAsTheyGo);
        sentence("2 VARINTS ... more than the one ahead (going round)", RowBoundaries::goingRound);
        sentence("VARINTS of more bytes than they need", RowBoundaries::otherVarints);
        sentence("U4 the least and U4 the greatest of them (0, 0 without one)", RowBoundaries::bounds);
        sentence("the least and the greatest: not others", RowBoundaries::otherBounds);
        sentence("the least int can't be a VALUE", RowBoundaries::theLeastInt);
        sentence("its bytes are not just those that II makes: more, or fewer", RowBoundaries::bytesBehind);
        end();
    }
}
