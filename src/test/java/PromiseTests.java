/** Each promise of the document by an ordinary run of calls; the edges stand in the tests of boundaries. */
public final class PromiseTests extends Suite {
    private static final int BIG = 1 << 30;
    private static final int[] WRONG = {Integer.MIN_VALUE, -2, 100000, MAX};

    // ---------------------------------------------------------------- promises

    private static void promise1() {
        Lake x = new Lake();
        due("NONE", LakeTable.NONE, NONE);
        due("MISSING", LakeTable.MISSING, MISSING);
        for (int what = 0; what <= 7; what++) {
            due("count", x.count(what), 0);
        }
        for (int w = 0; w < 4; w++) {
            due("writer at work", x.writer(w, 0), 0);
        }
        due("latest", x.latest(), NONE);
        due("tries", x.tries(1), 3);
        due("room", x.room(100), 6000);
    }

    private static void promise2() {
        Lake x = new Lake();
        due("room", x.room(99), NONE);
        due("room", x.room(20001), NONE);
        due("room", x.room(100), 6000);
        due("room", x.room(20000), 100);
        for (int n : WRONG) {
            due("room", x.room(n), NONE);
        }
        due("room", x.room(6000), 20000);
        // One ROW: 40 bytes of DATA and 16 of ENTRY; just so many are let in, and one less refuses.
        Lake y = Lake.withVersions(2);
        due("bytes", y.count(1), 112);
        y.room(112 + 56);
        y.begin(1, 0, 3);
        due("steps", y.finish(1), "123");
        y.room(168 + 55);
        y.begin(1, 0, 3);
        due("steps", y.finish(1), "12-1");
        due("bytes", y.count(1), 208);
        y.room(100);
        due("checkpoint", y.checkpoint(0), -2);
        due("the store stays", y.count(0), 7);
    }

    private static void promise3() {
        Lake x = new Lake();
        due("tries", x.tries(0), NONE);
        due("tries", x.tries(9), NONE);
        for (int n : WRONG) {
            due("tries", x.tries(n), NONE);
        }
        due("tries", x.tries(1), 3);
        due("tries", x.tries(8), 1);
        due("tries", x.tries(1), 8);
        x.begin(0, 0, 1);
        due("tries", x.tries(2), 1);
        x.begin(1, 0, 1);
        x.step(0);
        x.step(0);
        x.step(1);
        x.step(1);
        x.begin(2, 0, 1);
        due("steps", x.finish(2), "123");
        due("one try, told as it began", x.step(0), -3);
        due("the first of two", x.step(1), 4);
        due("look", x.step(1), 5);
        x.begin(2, 0, 1);
        due("steps", x.finish(2), "123");
        due("the last of two", x.step(1), -3);
    }

    private static void promise4() {
        Lake x = new Lake();
        due("append", x.append(0), true);
        due("append", x.append(0), false);
        due("append", x.append(3), true);
        due("append", x.append(4), false);
        due("append", x.append(-1), false);
        for (int w : WRONG) {
            due("append", x.append(w), false);
        }
        due("append without ROWS", x.step(0), 6);
        due("append again", x.append(0), true);
        x.row(0, 1, 1, 1, 1);
        x.crash(0);
        due("append", x.append(0), true);
        due("its ROWS are new", x.row(0, 1, 1, 1, 1), 1);
        // ROWS go to one DATA object for each PARTITION, by PARTITIONS, in the order they came.
        x.row(0, 0, 7, 7, 7);
        x.row(0, 1, 2, 2, 2);
        due("steps", x.finish(0), "1223");
        due("PARTITION of FILE 0", x.octet(DATA, 0, 1), 0);
        due("PARTITION of FILE 1", x.octet(DATA, 1, 1), 1);
        due("row 0", x.at(0, 0, 1), 7);
        due("row 1", x.at(0, 1, 1), 1);
        due("row 2", x.at(0, 2, 1), 2);
        due("ENTRY", x.octet(ENTRY, 0, 5), 2);
    }

    private static void promise5() {
        Lake x = new Lake();
        due("row of none", x.row(0, 0, 1, 1, 1), NONE);
        x.append(0);
        for (int i = 1; i <= 48; i++) {
            due("row", x.row(0, 7, i, i, i), i);
        }
        due("the 49th of a PARTITION", x.row(0, 7, 1, 1, 1), NONE);
        due("PARTITION", x.row(0, 8, 1, 1, 1), NONE);
        due("PARTITION", x.row(0, -1, 1, 1, 1), NONE);
        for (int n : WRONG) {
            due("PARTITION", x.row(0, n, 1, 1, 1), NONE);
            due("writer", x.row(n, 0, 1, 1, 1), NONE);
        }
        for (int i = 49; i <= 96; i++) {
            due("row", x.row(0, i % 6, MISSING, i, i), i);
        }
        due("the 97th", x.row(0, 6, 1, 1, 1), NONE);
        due("step", x.step(0), 1);
        due("row behind START", x.row(0, 6, 1, 1, 1), NONE);
        x.delete(1, 0, 0, 0, 0);
        due("row of a DELETE", x.row(1, 0, 1, 1, 1), NONE);
        x.compact(2, 0);
        due("row of a COMPACT", x.row(2, 0, 1, 1, 1), NONE);
    }

    private static void promise5Bytes() {
        Lake x = new Lake();
        x.append(0);
        x.row(0, 2, BIG, 5, BIG);
        x.row(0, 2, BIG, 6, -BIG);
        x.row(0, 2, BIG, 4, 12345678);
        due("steps", x.finish(0), "123");
        due("three ways", x.hex(DATA, 0), "54020301000340000000400000004000000002000a0203000000040000000600"
            + "0040000000c000000000bc614ec000000040000000f7a8b49a");
        due("ENTRY", x.hex(ENTRY, 0), "4c0000000001010000000002cd998523");
        x.append(0);
        for (int i = 0; i < 9; i++) {
            x.row(0, 7, i == 3 ? 9 : MISSING, i < 3 ? 1 : i == 3 ? MISSING : 2, MISSING);
        }
        due("steps", x.finish(0), "123");
        due("MISSING ones", x.hex(DATA, 1), "54070902ef80120000000900000009021000020000020000000000000001"
            + "0000000200ff800000000000000000e6800921");
        x.append(0);
        x.row(0, 0, 1 << 20, 1 << 20, MAX);
        x.row(0, 0, 1 << 20, MISSING, -MAX);
        due("steps", x.finish(0), "123");
        due("of like ways the least, going round", x.hex(DATA, 2), "540002010002001000000010000000100000004000"
            + "10000000100000001000000200feffffff0f04800000017fffffffc9550dbf");
        x.append(0);
        x.row(0, 1, 0, -1, 63);
        x.row(0, 1, 64, -65, 8191 + 64);
        due("steps", x.finish(0), "123");
        due("edges of VARINTS", x.hex(DATA, 3), "540102020000800100000000000000400200017fffffffbfffffffff02007e"
            + "8080010000003f0000203f64eb83a0");
    }

    private static void promise6() {
        Lake x = new Lake();
        for (int n : new int[] {-1, 8, MISSING, MAX}) {
            due("delete", x.delete(0, n, 0, 0, 0), false);
            due("delete", x.delete(0, 0, n, 0, 0), false);
            due("delete", x.delete(0, 0, 0, n, 0), false);
            due("delete", x.delete(n, 0, 0, 0, 0), false);
        }
        due("delete", x.delete(0, 0, 3, 0, 0), false);
        due("delete", x.delete(0, 0, 0, 3, 0), false);
        due("delete", x.delete(4, 0, 0, 0, 0), false);
        due("nothing happened", x.writer(0, 0), 0);
        due("delete", x.delete(0, 7, 2, 2, MISSING), true);
        due("delete", x.delete(0, 7, 2, 2, 0), false);
        due("on an empty table", x.step(0), 6);
        // FILES 0: 1 2 MISSING; 1: 5 6; 2: PARTITION 1.
        x.append(0);
        x.row(0, 0, 1, 1, 1);
        x.row(0, 0, 2, 2, 2);
        x.row(0, 0, MISSING, 3, 3);
        x.finish(0);
        x.append(0);
        x.row(0, 0, 5, 5, 5);
        x.row(0, 0, 6, 6, 6);
        x.row(0, 1, 1, 1, 1);
        x.finish(0);
        due("none is less", x.delete(0, 0, 0, 0, 1), true);
        due("done at once", x.step(0), 6);
        x.delete(0, 0, 0, 2, 4);
        due("none is just so", x.step(0), 6);
        x.delete(0, 0, 0, 1, 7);
        due("none is not less", x.step(0), 6);
        x.delete(0, 0, 0, 1, 2);
        due("steps", x.finish(0), "123");
        due("ENTRY", x.hex(ENTRY, 2).substring(0, 48), "4c0000000203020000000000020000000100010000000300");
        due("files", x.files(2), 2);
        due("left", x.at(2, 1, 1), 1);
        due("MISSING is left", x.at(2, 2, 1), MISSING);
        due("MISSING is left", x.at(2, 2, 2), 3);
        due("another PARTITION stays", x.at(2, 0, 0), 1);
        x.delete(0, 1, 1, 0, 2);
        due("a FILE with nothing left", x.finish(0), "13");
        due("files", x.files(3), 1);
        due("version 1 stays", x.files(1), 3);
    }

    private static void promise7() {
        Lake x = new Lake();
        for (int n : new int[] {-1, 8, MISSING, MAX}) {
            due("compact", x.compact(0, n), false);
            due("compact", x.compact(n, 0), false);
        }
        due("compact", x.compact(4, 0), false);
        due("compact", x.compact(3, 7), true);
        due("compact", x.compact(3, 7), false);
        due("step", x.step(3), 6);
        x = Lake.withVersions(1);
        x.compact(0, 0);
        due("one FILE is not enough", x.step(0), 6);
        x = new Lake();
        for (int k = 0; k < 2; k++) {
            x.append(0);
            for (int i = 0; i < 25; i++) {
                x.row(0, 3, 100 * k + i, k, MISSING);
            }
            x.row(0, 2, 1, 2, 3);
            x.finish(0);
        }
        x.compact(1, 3);
        due("step", x.step(1), 1);
        due("REMOVES", x.writer(1, 5), 2);
        due("to PUT", x.writer(1, 4), 2);
        due("steps", x.finish(1), "223");
        due("48 ROWS", x.octet(DATA, 4, 2), 48);
        due("what is left", x.octet(DATA, 5, 2), 2);
        due("FILES", x.files(2), 4);
        for (int i = 0; i < 50; i++) {
            due("row " + i, x.at(2, 2 + i, 1), i < 25 ? i : 75 + i);
        }
        due("no more", x.at(2, 52, 1), NONE);
        x = Lake.withVersions(12);
        x.compact(0, 0);
        due("steps", x.finish(0), "123");
        due("an ENTRY of 13 actions", x.size(ENTRY, 12), 88);
        due("FILES", x.files(12), 1);
        x = Lake.withVersions(2);
        x.compact(0, 0);
        x.finish(0);
        due("ENTRY", x.hex(ENTRY, 2).substring(0, 48), "4c0000000203020000000000020000000100010000000200");
    }

    private static void promise8() {
        Lake x = new Lake();
        due("not at work", x.step(0), 0);
        due("no writer", x.step(4), 0);
        for (int w : WRONG) {
            due("no writer", x.step(w), 0);
        }
        // Three writers of one BASE: the second loses and looks, a DELETE of the same PARTITION is in conflict.
        x = Lake.withVersions(1);
        x.begin(0, 0, 5);
        x.begin(1, 1, 6);
        x.delete(2, 0, 0, 1, 0);
        x.delete(3, 1, 0, 1, 0);
        due("START", x.step(0), 1);
        due("START", x.step(1), 1);
        due("START", x.step(2), 1);
        due("START of a DELETE with nothing to do", x.step(3), 6);
        due("WRITE", x.step(1), 2);
        due("WRITE", x.step(0), 2);
        due("COMMIT", x.step(0), 3);
        due("over", x.step(0), 0);
        due("LOST", x.step(1), 4);
        due("LOST", x.step(2), 4);
        due("LOOK of an APPEND", x.step(1), 5);
        due("COMMIT again", x.step(1), 3);
        due("version", x.latest(), 2);
        due("LOOK: conflict", x.step(2), -2);
        due("BASE behind LOOK", x.writer(2, 1), 1);
        due("over", x.step(2), 0);
        due("FAILED", x.count(6), 1);
    }

    private static void promise8Failures() {
        Lake x = Lake.withVersions(2);
        // A conflict only with its own PARTITION.
        x.compact(0, 0);
        x.step(0);
        x.begin(1, 1, 1);
        x.finish(1);
        due("WRITE, LOST, LOOK, COMMIT", x.finish(0), "2453");
        // An ENTRY that is DAMAGED when it is looked at.
        x.begin(0, 1, 1);
        x.step(0);
        x.step(0);
        x.begin(1, 1, 1);
        x.finish(1);
        x.spoil(ENTRY, 4, 0, 0);
        due("LOST", x.step(0), 4);
        due("LOOK", x.step(0), -4);
        due("BASE", x.writer(0, 1), 4);
        // A LATEST version that can't be READ.
        x.append(2);
        due("START", x.step(2), -4);
        due("BASE", x.writer(2, 1), 4);
        x.spoil(ENTRY, 4, 0, 76);
        x.append(2);
        due("START", x.step(2), 6);
        // FILES of the PARTITION that are DAMAGED fail a DELETE and a COMPACT, no APPEND.
        x = Lake.withVersions(2);
        x.spoil(DATA, 1, 0, 0);
        x.delete(0, 0, 0, 2, 0);
        due("DELETE", x.step(0), -4);
        due("REMOVES", x.writer(0, 5), 0);
        x.compact(0, 0);
        due("COMPACT", x.step(0), -4);
        x.delete(0, 1, 0, 2, 0);
        due("DELETE of another PARTITION", x.step(0), 6);
        x.begin(0, 0, 0);
        due("APPEND", x.finish(0), "123");
        due("FAILED", x.count(6), 2);
        // There are 100 OBJECTS.
        x = new Lake();
        x.room(20000);
        for (int k = 0; k < 50; k++) {
            x.begin(0, k % 8, k);
            due("steps", x.finish(0), "123");
        }
        x.begin(0, 0, 0);
        due("100 OBJECTS", x.finish(0), "1-1");
        due("still to PUT", x.writer(0, 4), 1);
        due("next number", x.count(2), 50);
        x.delete(0, 0, 0, 1, 0);
        due("no ENTRY either", x.finish(0), "1-1");
        due("checkpoint", x.checkpoint(3), -2);
        due("OBJECTS", x.count(0), 100);
    }

    /** What a writer found as it STARTED is what it writes, whatever is spoiled then. */
    private static void promise8Start() {
        Lake x = Lake.withVersions(2);
        x.compact(0, 0);
        x.step(0);
        x.spoil(DATA, 0, 0, 0);
        x.spoil(DATA, 1, 5, 99);
        due("steps", x.finish(0), "23");
        due("rows", x.at(2, 0, 1), 0);
        due("rows", x.at(2, 1, 1), 1);
    }

    private static void promise9() {
        Lake x = new Lake();
        due("crash", x.crash(0), false);
        due("crash", x.crash(4), false);
        for (int w : WRONG) {
            due("crash", x.crash(w), false);
        }
        x.begin(0, 0, 1);
        due("crash ahead of START", x.crash(0), true);
        x.begin(0, 0, 1);
        x.row(0, 1, 1, 1, 1);
        x.step(0);
        x.step(0);
        due("crash", x.crash(0), true);
        due("crash", x.crash(0), false);
        due("step", x.step(0), 0);
        due("its OBJECTS stay", x.size(DATA, 0), 40);
        due("no FAILED one", x.count(6), 0);
        due("PUT", x.writer(0, 3), 1);
        due("still to", x.writer(0, 4), 1);
        x.begin(0, 0, 1);
        due("steps", x.finish(0), "123");
        due("its number is a new one", x.file(0, 0), 1);
    }

    private static void promise10() {
        Lake x = new Lake();
        int[] ahead = {0, NONE, 0, 0, 0, 0, NONE};
        for (int what = 0; what < 7; what++) {
            due("writer ahead of any", x.writer(3, what), ahead[what]);
        }
        due("writer", x.writer(0, 7), NONE);
        due("writer", x.writer(0, -1), NONE);
        due("writer", x.writer(4, 0), NONE);
        for (int n : WRONG) {
            due("writer", x.writer(n, 0), NONE);
            due("writer", x.writer(0, n), NONE);
        }
        x.append(0);
        x.row(0, 0, 1, 1, 1);
        x.row(0, 1, 1, 1, 1);
        due("ahead of START", x.writer(0, 1), NONE);
        due("ahead of START", x.writer(0, 4), 0);
        x.step(0);
        due("BASE on an empty table", x.writer(0, 1), NONE);
        due("to PUT", x.writer(0, 4), 2);
        x.step(0);
        due("PUT", x.writer(0, 3), 1);
        due("to PUT", x.writer(0, 4), 1);
        x.step(0);
        due("at work", x.writer(0, 0), 1);
        due("no version yet", x.writer(0, 6), NONE);
        x.step(0);
        due("over", x.writer(0, 0), 0);
        due("PUT", x.writer(0, 3), 2);
        due("version", x.writer(0, 6), 0);
        x.delete(0, 0, 0, 2, 1);
        due("new work", x.writer(0, 3), 0);
        due("the version stays", x.writer(0, 6), 0);
        x.step(0);
        due("BASE", x.writer(0, 1), 0);
        due("REMOVES", x.writer(0, 5), 1);
        x.begin(1, 7, 1);
        x.finish(1);
        due("LOST", x.step(0), 4);
        due("tries LOST", x.writer(0, 2), 1);
        due("LOOK", x.step(0), 5);
        due("BASE", x.writer(0, 1), 1);
        due("COMMIT", x.step(0), 3);
        due("version", x.writer(0, 6), 2);
        due("LOST, also when it is over", x.writer(0, 2), 1);
        x.compact(0, 0);
        due("all is new", x.writer(0, 2) + x.writer(0, 3) + x.writer(0, 4) + x.writer(0, 5), 0);
        due("BASE", x.writer(0, 1), NONE);
    }

    private static void promise11() {
        Lake x = new Lake();
        due("checkpoint", x.checkpoint(0), -1);
        due("checkpoint", x.checkpoint(-1), -1);
        x = Lake.withVersions(3);
        for (int n : WRONG) {
            due("checkpoint", x.checkpoint(n), -1);
        }
        due("checkpoint", x.checkpoint(3), -1);
        due("checkpoint", x.checkpoint(1), 1);
        due("checkpoint", x.checkpoint(1), 0);
        due("bytes", x.hex(CHECKPOINT, 1).substring(0, 32), "43000000010200000000000000000100");
        due("size", x.size(CHECKPOINT, 1), 20);
        due("CHECKPOINTS", x.count(3), 1);
        x.spoil(CHECKPOINT, 1, 0, 0);
        due("it has one, DAMAGED", x.checkpoint(1), 0);
        x.spoil(ENTRY, 2, 0, 0);
        due("can't be READ", x.checkpoint(2), -1);
        due("READ without that ENTRY", x.checkpoint(0), 1);
        x.spoil(ENTRY, 0, 0, 0);
        due("READ by CHECKPOINT 0", x.files(1), 2);
        x.room(100);
        x.spoil(ENTRY, 2, 0, 76);
        due("no room", x.checkpoint(2), -2);
        Lake y = Lake.withVersions(2);
        y.delete(0, 0, 0, 1, 0);
        y.finish(0);
        due("of no FILES", y.checkpoint(2), 1);
        due("size", y.size(CHECKPOINT, 2), 10);
        due("FILES", y.files(2), 0);
        y.append(0);
        y.row(0, 3, 1, 2, 3);
        y.finish(0);
        y.spoil(ENTRY, 1, 0, 0);
        due("READ by it and the ENTRIES behind", y.files(3), 1);
        due("NONE without it", y.files(1), NONE);
    }

    private static void promise12() {
        Lake x = new Lake();
        due("empty", x.vacuum(0), NONE);
        x = Lake.withVersions(4);
        due("n", x.vacuum(-1), NONE);
        due("n", x.vacuum(1001), NONE);
        for (int n : WRONG) {
            due("n", x.vacuum(n), NONE);
        }
        due("nothing happened", x.count(0), 8);
        due("all are RETAINED", x.vacuum(1000), 0);
        due("the OLDEST has a CHECKPOINT", x.size(CHECKPOINT, 0), 15);
        x.compact(0, 0);
        x.finish(0);
        // Versions 3 and 4: CHECKPOINT 0 goes, and ENTRIES 0 to 2.
        due("vacuum", x.vacuum(1), 4);
        due("FLOOR", x.files(2), NONE);
        due("OLDEST", x.files(3), 4);
        due("LATEST", x.files(4), 1);
        due("ENTRY of the OLDEST", x.size(ENTRY, 3), 16);
        due("ENTRY below", x.size(ENTRY, 2), NONE);
        due("not below the FLOOR", x.vacuum(1000), 0);
        due("DATA of version 3, its ENTRY, its CHECKPOINT", x.vacuum(0), 6);
        due("FILES", x.file(4, 0), 4);
        due("objects", x.count(0), 3);
        due("taken", x.count(7), 10);
        due("-1 as version", x.files(-1), 0);
        // The DATA of a writer that CRASHED goes.
        x.begin(0, 0, 9);
        x.step(0);
        x.step(0);
        due("kept while at work", x.vacuum(0), 0);
        x.crash(0);
        due("vacuum", x.vacuum(0), 1);
        due("its number is not used again", x.count(2), 6);
    }

    private static void promise12Writers() {
        // A writer with BASE NONE keeps all ENTRIES, and one at work the FILES of its BASE.
        Lake x = new Lake();
        x.begin(3, 5, 1);
        x.step(3);
        for (int k = 0; k < 3; k++) {
            x.begin(0, 0, k);
            x.finish(0);
        }
        x.begin(2, 0, 1);
        due("not STARTED", x.vacuum(0), 0);
        x.compact(1, 0);
        x.step(1);
        x.crash(2);
        x.delete(0, 0, 0, 1, 0);
        x.finish(0);
        due("FLOOR", x.files(2), 3);
        due("CHECKPOINT 2 alone", x.vacuum(0), 1);
        due("FLOOR", x.files(2), NONE);
        due("ENTRY", x.size(ENTRY, 0), 16);
        due("COMPACT goes on: WRITE, LOST, conflict", x.finish(1), "24-2");
        due("its FILES and what it wrote", x.vacuum(0), 4);
        due("WRITE, LOST thrice", x.finish(3), "24545-3");
        due("ENTRIES and what it wrote", x.vacuum(0), 4);
        due("objects", x.count(0), 2);
        // The greatest BASE does not matter, the least does.
        Lake y = Lake.withVersions(3);
        y.begin(1, 1, 1);
        y.step(1);
        y.begin(0, 1, 1);
        y.finish(0);
        y.begin(0, 1, 1);
        y.finish(0);
        y.begin(2, 1, 1);
        y.step(2);
        due("ENTRIES 0 to 2 go", y.vacuum(0), 3);
        due("ENTRY 3 stays", y.size(ENTRY, 3), 16);
        due("steps", y.finish(1), "245453");
    }

    private static void promise12Refused() {
        Lake x = Lake.withVersions(3);
        x.spoil(ENTRY, 1, 0, 0);
        due("can't be READ", x.vacuum(0), NONE);
        x.spoil(ENTRY, 1, 0, 76);
        x.room(100);
        due("no room for the CHECKPOINT", x.vacuum(0), NONE);
        due("FLOOR", x.files(0), 1);
        x.room(6000);
        // A DAMAGED CHECKPOINT of the OLDEST: no FLOOR, but DATA that no RETAINED version has goes.
        x.checkpoint(0);
        x.compact(0, 0);
        x.finish(0);
        x.checkpoint(3);
        x.spoil(CHECKPOINT, 3, 0, 0);
        due("DATA alone", x.vacuum(0), 3);
        due("versions below can still be READ", x.files(1), 2);
        due("their FILES are gone", x.find(1, 0, 1, 0), 0);
        due("gone", x.found(2), 2);
        // RETAINED ones that can be READ, in spite of an ENTRY that is not needed.
        Lake y = Lake.withVersions(3);
        y.checkpoint(1);
        y.spoil(ENTRY, 0, 0, 0);
        due("all but version 0", y.vacuum(2), NONE);
        due("versions 1 and 2", y.vacuum(1), 1);
    }

    private static void promise13() {
        Lake x = new Lake();
        due("latest", x.latest(), NONE);
        x.begin(0, 0, 0);
        x.step(0);
        x.step(0);
        due("ahead of COMMIT", x.latest(), NONE);
        x.step(0);
        due("latest", x.latest(), 0);
        x = Lake.withVersions(3);
        x.spoil(ENTRY, 2, 0, 0);
        due("DAMAGED too", x.latest(), 2);
        x.spoil(ENTRY, 2, 0, 76);
        x.vacuum(0);
        due("latest", x.latest(), 2);
    }

    private static void promise14() {
        Lake x = new Lake();
        due("files", x.files(-1), 0);
        due("files", x.files(0), NONE);
        x = Lake.withVersions(3);
        due("files", x.files(-1), 0);
        due("files", x.files(0), 1);
        due("files", x.files(2), 3);
        due("files", x.files(3), NONE);
        for (int n : WRONG) {
            due("files", x.files(n), NONE);
        }
        x.spoil(ENTRY, 1, 15, 0);
        due("DAMAGED", x.files(2), NONE);
        due("ahead of it", x.files(0), 1);
    }

    private static void promise15() {
        Lake x = Lake.withVersions(3);
        due("file", x.file(2, 0), 0);
        due("file", x.file(2, 2), 2);
        due("file", x.file(2, 3), NONE);
        due("file", x.file(2, -1), NONE);
        due("file", x.file(3, 0), NONE);
        due("file", x.file(-1, 0), NONE);
        for (int n : WRONG) {
            due("file", x.file(2, n), NONE);
            due("file", x.file(n, 0), NONE);
        }
        x.delete(0, 0, 0, 2, 1);
        x.finish(0);
        due("by numbers", x.file(3, 1), 2);
        x.spoil(DATA, 2, 0, 0);
        due("DAMAGED ones too", x.file(3, 1), 2);
        x.spoil(ENTRY, 0, 0, 0);
        due("can't be READ", x.file(3, 0), NONE);
    }

    private static void promise16() {
        Lake x = new Lake();
        due("at", x.at(-1, 0, 0), NONE);
        x.append(0);
        x.row(0, 6, 4, MISSING, -1);
        x.row(0, 1, 7, 8, 9);
        x.row(0, 6, 5, 5, 5);
        x.finish(0);
        int[][] rows = {{1, 7, 8, 9}, {6, 4, MISSING, -1}, {6, 5, 5, 5}};
        for (int i = 0; i < 3; i++) {
            for (int what = 0; what < 4; what++) {
                due("at " + i, x.at(0, i, what), rows[i][what]);
            }
        }
        due("at", x.at(0, 3, 0), NONE);
        due("at", x.at(0, -1, 0), NONE);
        due("at", x.at(0, 0, 4), NONE);
        due("at", x.at(0, 0, -1), NONE);
        due("at", x.at(1, 0, 0), NONE);
        for (int n : WRONG) {
            due("at", x.at(n, 0, 0), NONE);
            due("at", x.at(0, n, 0), NONE);
            due("at", x.at(0, 0, n), NONE);
        }
        x.spoil(DATA, 0, 3, 9);
        due("a DAMAGED FILE has none", x.at(0, 0, 1), 4);
        due("at", x.at(0, 2, 1), NONE);
    }

    private static void promise17() {
        Lake x = new Lake();
        due("find", x.find(0, 0, 0, 0), NONE);
        due("find in version -1", x.find(-1, 0, 0, 0), 0);
        x.append(0);
        x.row(0, 0, 1, -5, MISSING);
        x.row(0, 0, 3, -5, MISSING);
        x.row(0, 0, 3, MISSING, MISSING);
        x.row(0, 1, 10, MAX, 0);
        x.row(0, 1, 20, MAX, 0);
        x.finish(0);
        found(x, x.find(0, 0, 0, 3), 1, 1, 1, 0, 1);
        found(x, x.find(0, 0, 0, 1), 0, 0, 2, 0, 0);
        found(x, x.find(0, 0, 1, 3), 4, 2, 0, 0, 36);
        found(x, x.find(0, 0, 1, 20), 1, 1, 1, 0, 20);
        found(x, x.find(0, 0, 1, 21), 0, 0, 2, 0, 0);
        found(x, x.find(0, 0, 2, 3), 2, 1, 1, 0, 6);
        found(x, x.find(0, 0, 2, 2), 0, 1, 1, 0, 0);
        found(x, x.find(0, 0, 2, 15), 0, 1, 1, 0, 0);
        found(x, x.find(0, 2, 2, 0), 2, 1, 1, 0, 0);
        found(x, x.find(0, 1, 1, MISSING), 4, 2, 0, 0, -12);
        found(x, x.find(0, 1, 2, MISSING), 0, 0, 2, 0, 0);
        found(x, x.find(0, 1, 0, MISSING), 0, 0, 2, 0, 0);
        for (int n : new int[] {-1, 3, MISSING, MAX}) {
            due("column", x.find(0, n, 0, 0), NONE);
            due("what", x.find(0, 0, n, 0), NONE);
        }
        due("version", x.find(1, 0, 0, 0), NONE);
        due("version", x.find(-2, 0, 0, 0), NONE);
        x.spoil(DATA, 0, 20, 77);
        found(x, x.find(0, 0, 1, 15), 1, 1, 0, 1, 20);
        x.spoil(ENTRY, 0, 1, 77);
        due("can't be READ", x.find(0, 0, 0, 0), NONE);
    }

    private static void found(Lake x, int got, int rows, int read, int passed, int hurt, int sum) {
        due("find", got, rows);
        due("read", x.found(0), read);
        due("passed over", x.found(1), passed);
        due("DAMAGED or gone", x.found(2), hurt);
        due("sum", x.found(3), sum);
    }

    private static void promise18() {
        Lake x = new Lake();
        for (int what = 0; what < 4; what++) {
            due("found ahead of any", x.found(what), 0);
        }
        due("found", x.found(4), NONE);
        due("found", x.found(-1), NONE);
        for (int n : WRONG) {
            due("found", x.found(n), NONE);
        }
        x = Lake.withVersions(3);
        x.find(2, 0, 1, 1);
        due("find", x.find(2, 0, 3, 1), NONE);
        due("of the latest that was not NONE", x.found(0), 2);
        due("passed over", x.found(1), 1);
        due("sum", x.found(3), 3);
        x.find(-1, 0, 1, 1);
        due("of version -1", x.found(0) + x.found(1) + x.found(3), 0);
    }

    private static void promise19() {
        Lake x = Lake.withVersions(1);
        due("size", x.size(DATA, 0), 40);
        due("size", x.size(ENTRY, 0), 16);
        due("size", x.size(CHECKPOINT, 0), NONE);
        x.checkpoint(0);
        due("size", x.size(CHECKPOINT, 0), 15);
        due("size", x.size(DATA, 1), NONE);
        due("size", x.size(3, 0), NONE);
        due("size", x.size(-1, 0), NONE);
        for (int n : WRONG) {
            due("size", x.size(n, 0), NONE);
            due("size", x.size(DATA, n), NONE);
        }
    }

    private static void promise20() {
        Lake x = Lake.withVersions(1);
        due("octet", x.octet(DATA, 0, 0), 84);
        due("octet", x.octet(ENTRY, 0, 0), 76);
        due("octet", x.octet(ENTRY, 0, 15) >= 0, true);
        due("octet", x.octet(ENTRY, 0, 16), NONE);
        due("octet", x.octet(ENTRY, 0, -1), NONE);
        due("octet", x.octet(CHECKPOINT, 0, 0), NONE);
        for (int n : WRONG) {
            due("octet", x.octet(n, 0, 0), NONE);
            due("octet", x.octet(DATA, n, 0), NONE);
            due("octet", x.octet(DATA, 0, n), NONE);
        }
        x.spoil(DATA, 0, 0, 255);
        due("octet", x.octet(DATA, 0, 0), 255);
    }

    private static void promise21() {
        Lake x = Lake.withVersions(1);
        due("spoil", x.spoil(DATA, 0, 0, 256 + 7), 84);
        due("spoil", x.spoil(DATA, 0, 0, -1), 7);
        due("spoil", x.spoil(DATA, 0, 0, 84), 255);
        due("as it was", x.at(0, 0, 3), 0);
        due("spoil", x.spoil(DATA, 0, 40, 1), NONE);
        due("spoil", x.spoil(DATA, 0, -1, 1), NONE);
        due("spoil", x.spoil(CHECKPOINT, 0, 0, 1), NONE);
        for (int n : WRONG) {
            due("spoil", x.spoil(n, 0, 0, 1), NONE);
            due("spoil", x.spoil(DATA, n, 0, 1), NONE);
            due("spoil", x.spoil(DATA, 0, n, 1), NONE);
        }
        for (int i = 0; i < 40; i++) {
            int was = x.spoil(DATA, 0, i, x.octet(DATA, 0, i) ^ 1 << i % 8);
            due("DAMAGED by byte " + i, x.at(0, 0, 0), NONE);
            x.spoil(DATA, 0, i, was);
            due("no more", x.at(0, 0, 0), 0);
        }
    }

    private static void promise22() {
        Lake x = Lake.withVersions(2);
        x.begin(0, 0, 1);
        x.step(0);
        x.step(0);
        x.begin(1, 0, 1);
        x.finish(1);
        due("LOST", x.step(0), 4);
        x.crash(0);
        x.checkpoint(1);
        int[] before = {8, 4 * 40 + 3 * 16 + 20, 4, 1, 3, 1, 0, 0};
        for (int what = 0; what < 8; what++) {
            due("count " + what, x.count(what), before[what]);
        }
        x.spoil(ENTRY, 2, 0, 0);
        x.append(0);
        due("FAILED", x.step(0), -4);
        x.spoil(ENTRY, 2, 0, 76);
        due("vacuum", x.vacuum(1), 2);
        int[] behind = {6, 3 * 40 + 2 * 16 + 20, 4, 1, 3, 1, 1, 2};
        for (int what = 0; what < 8; what++) {
            due("count " + what, x.count(what), behind[what]);
        }
        x.delete(0, 0, 0, 1, 100);
        due("DONE at once", x.step(0), 6);
        due("is no commit", x.count(4), 3);
        due("count", x.count(8), NONE);
        due("count", x.count(-1), NONE);
        for (int n : WRONG) {
            due("count", x.count(n), NONE);
        }
    }

    /** The run that README.md tells, with the answers that it tells. */
    private static void readme() {
        Lake x = new Lake();
        due("append", x.append(0), true);
        due("row", x.row(0, 2, 10, 20, MISSING), 1);
        due("row", x.row(0, 2, 11, 20, 7), 2);
        due("steps", x.steps(0, 3), "123");
        due("latest", x.latest(), 0);
        due("find", x.find(0, 0, 1, 11), 1);
        due("found", x.found(3), 11);
        due("delete", x.delete(1, 2, 0, 2, 10), true);
        due("steps", x.finish(1), "123");
        due("writer", x.writer(1, 0), 0);
        due("at", x.at(1, 0, 1), 11);
        due("files", x.files(0), 1);
        due("vacuum", x.vacuum(0), 2);
        due("ENTRY 0 went", x.size(ENTRY, 0), NONE);
        due("DATA object 0 went", x.size(DATA, 0), NONE);
        due("files", x.files(0), NONE);
        due("files", x.files(1), 1);
    }

    public static void main(String[] args) {
        sentence("promise 1", PromiseTests::promise1);
        sentence("promise 2", PromiseTests::promise2);
        sentence("promise 3", PromiseTests::promise3);
        sentence("promise 4", PromiseTests::promise4);
        sentence("promise 5", PromiseTests::promise5);
        sentence("promise 5, bytes", PromiseTests::promise5Bytes);
        sentence("promise 6", PromiseTests::promise6);
        sentence("promise 7", PromiseTests::promise7);
        sentence("promise 8", PromiseTests::promise8);
        sentence("promise 8, failures", PromiseTests::promise8Failures);
        sentence("promise 8, start", PromiseTests::promise8Start);
        sentence("promise 9", PromiseTests::promise9);
        sentence("promise 10", PromiseTests::promise10);
        sentence("promise 11", PromiseTests::promise11);
        sentence("promise 12", PromiseTests::promise12);
        sentence("promise 12, writers", PromiseTests::promise12Writers);
        sentence("promise 12, refused", PromiseTests::promise12Refused);
        sentence("promise 13", PromiseTests::promise13);
        sentence("promise 14", PromiseTests::promise14);
        sentence("promise 15", PromiseTests::promise15);
        sentence("promise 16", PromiseTests::promise16);
        sentence("promise 17", PromiseTests::promise17);
        sentence("promise 18", PromiseTests::promise18);
        sentence("promise 19", PromiseTests::promise19);
        sentence("promise 20", PromiseTests::promise20);
        sentence("promise 21", PromiseTests::promise21);
        sentence("promise 22", PromiseTests::promise22);
        sentence("the run of README.md", PromiseTests::readme);
        end();
    }
}
