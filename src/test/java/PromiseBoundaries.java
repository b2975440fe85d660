/** The boundary cases that the promises 1 to 22 name themselves, a sentence each. */
public final class PromiseBoundaries extends Suite {
    private static final int[] FAR_OFF = {Integer.MIN_VALUE, -1000000, -2, 1000000, MAX};

    // ---------------------------------------------------------------- 1 to 3

    private static void the512thCall() {
        Lake x = new Lake();
        x.room(20000);
        for (int k = 0; k < 4; k++) {
            x.append(k);
            for (int i = 0; i < 96; i++) {
                x.row(k, i / 48, i * 1234567, i * i * 7654321, -i);
            }
            due("steps", x.finish(k), "1223");
        }
        for (int k = 0; k < 14; k++) {
            x.cut(0, 0, 0, 2, 48 + k);
            x.find(3, 0, 1, MISSING);
            x.at(3, 383, 3);
            x.compact(1, 7);
            x.step(1);
        }
        due("the calls so far", x.calls(), 489);
        for (int k = 490; k <= 510; k++) {
            due("call " + k, x.latest(), 3);
        }
        due("call 511", x.vacuum(0), 3);
        due("call 512", x.count(7), 3);
    }

    private static void newObject() {
        Lake used = Lake.withVersions(2);
        used.tries(8);
        used.room(100);
        used.find(1, 0, 1, 0);
        used.vacuum(0);
        Lake x = new Lake();
        for (int what = 0; what <= 7; what++) {
            due("count(" + what + ")", x.count(what), 0);
        }
        for (int sort = 0; sort < 3; sort++) {
            due("no OBJECT", x.size(sort, 0), NONE);
        }
        for (int w = 0; w < 4; w++) {
            due("not at work", x.writer(w, 0), 0);
            due("not at work", x.step(w), 0);
        }
        due("latest", x.latest(), NONE);
        due("room", x.room(6000), 6000);
    }

    private static void threeTries() {
        Lake x = new Lake();
        x.begin(0, 0, 1);
        x.steps(0, 2);
        for (int v = 0; v < 3; v++) {
            x.add(1, 1, v);
        }
        due("steps", x.finish(0), "4545-3");
        due("tries", x.tries(3), 3);
    }

    private static void roomRange() {
        Lake x = new Lake();
        due("room(100)", x.room(100), 6000);
        due("room(101)", x.room(101), 100);
        due("room(19999)", x.room(19999), 101);
        due("room(20000)", x.room(20000), 19999);
        due("room(20000)", x.room(20000), 20000);
    }

    private static void roomOthers() {
        Lake x = Lake.withVersions(2);
        x.room(168);
        due("room(99)", x.room(99), NONE);
        due("room(20001)", x.room(20001), NONE);
        due("room(0)", x.room(0), NONE);
        due("room(-1)", x.room(-1), NONE);
        for (int n : FAR_OFF) {
            due("room(" + n + ")", x.room(n), NONE);
        }
        due("changing nothing", x.add(0, 0, 1), "123");
        due("changing nothing", x.checkpoint(0), -2);
        due("changing nothing", x.room(200), 168);
    }

    private static void roomOf20000() {
        Lake x = new Lake();
        x.room(20000);
        x.fillUpTo(20000 - 65);
        due("65 bytes more", x.addBytes(65), "123");
        due("bytes", x.count(1), 20000);
        due("not one more", x.checkpoint(x.latest()), -2);
        x = new Lake();
        x.room(20000);
        x.fillUpTo(20000 - 64);
        due("65 bytes more", x.addBytes(65), "12-1");
        due("bytes", x.count(1), 20000 - 64 + 49);
    }

    private static void roomOf100() {
        Lake x = new Lake();
        x.room(100);
        due("40 + 16 bytes", x.add(0, 0, 1), "123");
        due("44 more are 100", x.addBytes(60), "12-1");
        due("bytes", x.count(1), 100);
        x = new Lake();
        x.room(100);
        x.add(0, 0, 1);
        due("45 more are 101", x.addBytes(61), "1-1");
        due("bytes", x.count(1), 56);
    }

    private static void triesRange() {
        Lake x = new Lake();
        due("tries(1)", x.tries(1), 3);
        due("tries(8)", x.tries(8), 1);
        due("tries(8)", x.tries(8), 8);
        due("tries(0)", x.tries(0), NONE);
        due("tries(9)", x.tries(9), NONE);
        due("tries(-1)", x.tries(-1), NONE);
        for (int n : FAR_OFF) {
            due("tries(" + n + ")", x.tries(n), NONE);
        }
        due("changing nothing", x.tries(2), 8);
    }

    private static void triesFromNowOn() {
        Lake x = new Lake();
        x.tries(2);
        x.begin(0, 0, 1);
        x.tries(1);
        x.begin(1, 0, 1);
        x.tries(8);
        x.steps(0, 2);
        x.steps(1, 2);
        x.add(2, 0, 1);
        due("1 try as it began", x.step(1), -3);
        due("2 tries as it began", x.step(0), 4);
        x.step(0);
        x.add(2, 0, 1);
        due("2 tries as it began", x.step(0), -3);
    }

    // ---------------------------------------------------------------- 4 to 7

    private static void appendRefused() {
        Lake x = new Lake();
        due("append(-1)", x.append(-1), false);
        due("append(4)", x.append(4), false);
        for (int w : FAR_OFF) {
            due("append(" + w + ")", x.append(w), false);
        }
        due("append(0)", x.append(0), true);
        due("append(3)", x.append(3), true);
        x.row(0, 0, 1, 1, 1);
        due("at work", x.append(0), false);
        due("nothing happens: it has its ROW", x.row(0, 0, 2, 2, 2), 2);
        x.step(0);
        due("at work, STARTED", x.append(0), false);
        due("nothing happens", x.steps(0, 2), "23");
        due("it is over", x.append(0), true);
        x.delete(1, 0, 0, 1, 0);
        due("at work as a DELETE", x.append(1), false);
        due("nothing happens", x.step(1), 1);
    }

    private static void rowsOfAPartition() {
        Lake x = new Lake();
        x.append(0);
        for (int i = 1; i <= 48; i++) {
            due("row " + i, x.row(0, 3, i, i, i), i);
        }
        due("row 49", x.row(0, 3, 0, 0, 0), NONE);
        due("of another PARTITION", x.row(0, 4, 0, 0, 0), 49);
        due("of this one again", x.row(0, 3, 0, 0, 0), NONE);
        due("steps", x.finish(0), "1223");
        due("ROWS", x.octet(DATA, 0, 2), 48);
    }

    private static void rowsInAll() {
        Lake x = new Lake();
        x.append(0);
        for (int i = 1; i <= 96; i++) {
            due("row " + i, x.row(0, i % 8, i, i, i), i);
        }
        for (int p = 0; p < 8; p++) {
            due("row 97", x.row(0, p, 0, 0, 0), NONE);
        }
        x.step(0);
        due("to PUT", x.writer(0, 4), 8);
    }

    private static void rowOfNoPartition() {
        Lake x = new Lake();
        x.append(0);
        due("PARTITION 0", x.row(0, 0, 1, 1, 1), 1);
        due("PARTITION 7", x.row(0, 7, 1, 1, 1), 2);
        due("PARTITION -1", x.row(0, -1, 1, 1, 1), NONE);
        due("PARTITION 8", x.row(0, 8, 1, 1, 1), NONE);
        for (int p : FAR_OFF) {
            due("PARTITION " + p, x.row(0, p, 1, 1, 1), NONE);
        }
        due("nothing was added", x.row(0, 7, 1, 1, 1), 3);
    }

    private static void rowOfNoSuchWriter() {
        Lake x = new Lake();
        due("ahead of any work", x.row(0, 0, 1, 1, 1), NONE);
        x.delete(1, 0, 0, 0, 0);
        due("a DELETE", x.row(1, 0, 1, 1, 1), NONE);
        x.compact(2, 0);
        due("a COMPACT", x.row(2, 0, 1, 1, 1), NONE);
        for (int w : FAR_OFF) {
            due("writer " + w, x.row(w, 0, 1, 1, 1), NONE);
        }
        x.begin(0, 0, 1);
        x.step(0);
        due("STARTED", x.row(0, 0, 1, 1, 1), NONE);
        due("steps", x.finish(0), "23");
        due("over", x.row(0, 0, 1, 1, 1), NONE);
        due("ROWS", x.octet(DATA, 0, 2), 1);
        x.begin(3, 0, 1);
        x.crash(3);
        due("CRASHED", x.row(3, 0, 1, 1, 1), NONE);
    }

    private static void missingByThatNumber() {
        Lake x = new Lake();
        x.append(0);
        x.row(0, 0, Integer.MIN_VALUE, Integer.MIN_VALUE + 1, MAX);
        x.finish(0);
        due("bits of column 0", x.octet(DATA, 0, 4), 128);
        due("bits of column 1", x.octet(DATA, 0, 14), 0);
        due("MISSING", x.at(0, 0, 1), LakeTable.MISSING);
        due("the least VALUE", x.at(0, 0, 2), -MAX);
        due("the greatest VALUE", x.at(0, 0, 3), MAX);
        due("the constant", LakeTable.MISSING, Integer.MIN_VALUE);
        due("the constant", LakeTable.NONE, -1);
    }

    private static void deleteRefused() {
        Lake x = Lake.withVersions(2);
        int[][] wrong = {{0, -1, 0, 0}, {0, 8, 0, 0}, {0, 0, -1, 0}, {0, 0, 3, 0}, {0, 0, 0, -1}, {0, 0, 0, 3},
            {-1, 0, 0, 0}, {4, 0, 0, 0}};
        for (int[] c : wrong) {
            due("delete", x.delete(c[0], c[1], c[2], c[3], 0), false);
        }
        for (int n : FAR_OFF) {
            due("delete", x.delete(n, 0, 0, 0, 0), false);
            due("delete", x.delete(0, n, 0, 0, 0), false);
            due("delete", x.delete(0, 0, n, 0, 0), false);
            due("delete", x.delete(0, 0, 0, n, 0), false);
        }
        due("nothing happens", x.writer(0, 0), 0);
        due("the greatest of each", x.delete(3, 7, 2, 2, MAX), true);
        due("the least of each", x.delete(0, 0, 0, 0, Integer.MIN_VALUE), true);
        x.crash(0);
        due("delete", x.delete(0, 0, 0, 2, 1), true);
        due("at work", x.delete(0, 0, 0, 1, 0), false);
        due("at work, and no such PARTITION", x.delete(0, 8, 0, 1, 0), false);
        x.step(0);
        due("nothing happens: it wants one FILE", x.writer(0, 5), 1);
    }

    private static void compactRefused() {
        Lake x = Lake.withVersions(2);
        for (int p : new int[] {-1, 8, -100, 1000, MISSING, MAX}) {
            due("compact(0, " + p + ")", x.compact(0, p), false);
        }
        for (int w : FAR_OFF) {
            due("compact(" + w + ", 0)", x.compact(w, 0), false);
        }
        due("compact(-1, 0)", x.compact(-1, 0), false);
        due("compact(4, 0)", x.compact(4, 0), false);
        due("nothing happens", x.writer(0, 0), 0);
        due("compact(3, 7)", x.compact(3, 7), true);
        due("compact(0, 0)", x.compact(0, 0), true);
        due("at work", x.compact(0, 1), false);
        x.step(0);
        due("nothing happens: it is of PARTITION 0", x.writer(0, 5), 2);
    }

    // ---------------------------------------------------------------- 8 to 10

    private static void stepNotAtWork() {
        Lake x = new Lake();
        due("ahead of any work", x.step(0), 0);
        due("step(-1)", x.step(-1), 0);
        due("step(4)", x.step(4), 0);
        for (int w : FAR_OFF) {
            due("step(" + w + ")", x.step(w), 0);
        }
        x.add(0, 0, 1);
        due("DONE", x.step(0), 0);
        x.append(0);
        due("DONE at once", x.steps(0, 2), "60");
        x.append(0);
        x.crash(0);
        due("CRASHED", x.step(0), 0);
        x.room(100);
        x.append(0);
        x.row(0, 0, 1, 1, 1);
        x.row(0, 1, 1, 1, 1);
        due("FAILED", x.steps(0, 4), "12-10");
        due("nothing happens", x.count(6), 1);
    }

    private static void stepAnswers() {
        Lake x = Lake.withVersions(1);
        x.tries(2);
        x.begin(0, 0, 1);
        x.delete(1, 0, 0, 2, 0);
        x.begin(2, 0, 1);
        x.append(3);
        due("1 START, 2 WRITE", x.steps(0, 2), "12");
        due("1 START without anything to WRITE", x.steps(1, 1), "1");
        due("1 START, 2 WRITE", x.steps(2, 2), "12");
        due("6 START (DONE at once)", x.step(3), 6);
        due("3 COMMIT (DONE)", x.step(0), 3);
        due("4 COMMIT (LOST), 5 LOOK", x.steps(2, 2), "45");
        due("4 COMMIT (LOST), -2", x.steps(1, 2), "4-2");
        x.add(0, 0, 1);
        due("-3", x.step(2), -3);
        x.room(100);
        x.begin(0, 0, 1);
        due("-1", x.finish(0), "1-1");
        x.spoil(ENTRY, 0, 0, 0);
        x.append(0);
        due("-4", x.step(0), -4);
        due("FAILED", x.count(6), 4);
    }

    private static void crashNotAtWork() {
        Lake x = new Lake();
        due("ahead of any work", x.crash(0), false);
        due("crash(-1)", x.crash(-1), false);
        due("crash(4)", x.crash(4), false);
        for (int w : FAR_OFF) {
            due("crash(" + w + ")", x.crash(w), false);
        }
        x.append(3);
        due("crash(3)", x.crash(3), true);
        due("CRASHED", x.crash(3), false);
        x.add(0, 0, 1);
        due("DONE", x.crash(0), false);
    }

    private static void writerOthers() {
        Lake x = new Lake();
        x.append(0);
        x.append(3);
        due("what -1", x.writer(0, -1), NONE);
        due("what 7", x.writer(0, 7), NONE);
        due("writer -1", x.writer(-1, 0), NONE);
        due("writer 4", x.writer(4, 0), NONE);
        for (int n : FAR_OFF) {
            due("writer", x.writer(n, 0), NONE);
            due("what", x.writer(0, n), NONE);
        }
        due("writer 3", x.writer(3, 0), 1);
        due("writer 2", x.writer(2, 0), 0);
    }

    private static void writerAheadOfAny() {
        Lake x = Lake.withVersions(1);
        int[] due = {0, NONE, 0, 0, 0, 0, NONE};
        for (int what = 0; what < 7; what++) {
            due("what " + what, x.writer(1, what), due[what]);
        }
    }

    private static void baseAheadOfStart() {
        Lake x = Lake.withVersions(2);
        due("of the latest work", x.writer(0, 1), 0);
        x.append(0);
        due("ahead of START", x.writer(0, 1), NONE);
        x.step(0);
        due("behind it", x.writer(0, 1), 1);
        x.delete(0, 0, 0, 0, 0);
        due("ahead of START", x.writer(0, 1), NONE);
        Lake y = new Lake();
        y.append(0);
        y.step(0);
        due("on an empty table", y.writer(0, 1), NONE);
    }

    private static void writerWhenItIsOver() {
        Lake x = new Lake();
        x.add(1, 0, 1, 2);
        x.add(1, 0, 1, 1);
        x.delete(0, 0, 0, 2, 1);
        x.steps(0, 2);
        x.add(1, 5, 1);
        due("steps", x.finish(0), "453");
        int[] done = {0, 2, 1, 1, 0, 2, 3};
        for (int what = 0; what < 7; what++) {
            due("DONE, what " + what, x.writer(0, what), done[what]);
        }
        x.compact(0, 0);
        int[] begun = {1, NONE, 0, 0, 0, 0, 3};
        for (int what = 0; what < 7; what++) {
            due("new work, what " + what, x.writer(0, what), begun[what]);
        }
        due("DONE at once", x.step(0), 6);
        due("the version of its latest commit", x.writer(0, 6), 3);
        x.append(0);
        x.row(0, 0, 1, 1, 1);
        x.row(0, 1, 1, 1, 1);
        x.steps(0, 2);
        x.crash(0);
        int[] crashed = {0, 3, 0, 1, 1, 0, 3};
        for (int what = 0; what < 7; what++) {
            due("CRASHED, what " + what, x.writer(0, what), crashed[what]);
        }
    }

    // ---------------------------------------------------------------- 11 to 13

    private static void checkpointIsThere() {
        Lake x = Lake.withVersions(2);
        due("checkpoint", x.checkpoint(1), 1);
        due("checkpoint", x.checkpoint(0), 1);
        due("it has one", x.checkpoint(1), 0);
        due("nothing happens", x.count(3), 2);
        x.room(100);
        due("it has one, and there is no room", x.checkpoint(1), 0);
        x.spoil(CHECKPOINT, 1, 0, 0);
        due("it has one, DAMAGED", x.checkpoint(1), 0);
        due("DAMAGED as it was", x.octet(CHECKPOINT, 1, 0), 0);
        x.spoil(CHECKPOINT, 0, 0, 0);
        x.spoil(ENTRY, 0, 0, 0);
        due("the version can't be READ", x.files(1), NONE);
        due("it has one all the same", x.checkpoint(1), 0);
    }

    private static void checkpointOfNoVersion() {
        Lake x = new Lake();
        due("an empty table", x.checkpoint(0), -1);
        due("an empty table", x.checkpoint(-1), -1);
        x = Lake.withVersions(3);
        due("checkpoint(-1)", x.checkpoint(-1), -1);
        due("checkpoint(3)", x.checkpoint(3), -1);
        for (int v : FAR_OFF) {
            due("checkpoint(" + v + ")", x.checkpoint(v), -1);
        }
        x.vacuum(1);
        due("below the FLOOR", x.checkpoint(0), -1);
        due("at the FLOOR, where the vacuum has PUT one", x.checkpoint(1), 0);
        x.spoil(ENTRY, 2, 0, 0);
        due("can't be READ", x.checkpoint(2), -1);
        x.room(100);
        due("can't be READ, and there is no room", x.checkpoint(2), -1);
        due("CHECKPOINTS", x.count(3), 1);
        x.spoil(ENTRY, 2, 0, 76);
        due("no room", x.checkpoint(2), -2);
    }

    private static void vacuumOthers() {
        Lake x = Lake.withVersions(2);
        due("vacuum(-1)", x.vacuum(-1), NONE);
        due("vacuum(1001)", x.vacuum(1001), NONE);
        for (int n : FAR_OFF) {
            due("vacuum(" + n + ")", x.vacuum(n), NONE);
        }
        due("nothing happens", x.count(0), 4);
        due("nothing happens", x.count(3), 0);
        due("vacuum(1000)", x.vacuum(1000), 0);
        due("vacuum(0)", x.vacuum(0), 2);
        due("ENTRY 0 and CHECKPOINT 0", x.count(7), 2);
        due("again", x.vacuum(0), 0);
    }

    private static void vacuumOfAnEmptyTable() {
        Lake x = new Lake();
        due("vacuum(0)", x.vacuum(0), NONE);
        due("vacuum(1000)", x.vacuum(1000), NONE);
        x.begin(0, 0, 1);
        x.steps(0, 2);
        x.crash(0);
        due("vacuum(0)", x.vacuum(0), NONE);
        due("nothing happens", x.count(0), 1);
        x.add(0, 0, 1);
        due("vacuum(0)", x.vacuum(0), 1);
    }

    private static void latestOfAnEmptyTable() {
        Lake x = new Lake();
        due("latest", x.latest(), NONE);
        x.begin(0, 0, 1);
        x.steps(0, 2);
        due("ahead of a COMMIT", x.latest(), NONE);
        x.step(0);
        due("behind it", x.latest(), 0);
    }

    // ---------------------------------------------------------------- 14 to 18

    private static void filesOfNoVersion() {
        Lake x = new Lake();
        due("files(0)", x.files(0), NONE);
        x = Lake.withVersions(3);
        due("files(0)", x.files(0), 1);
        due("files(2)", x.files(2), 3);
        due("files(3)", x.files(3), NONE);
        due("files(-2)", x.files(-2), NONE);
        for (int v : FAR_OFF) {
            due("files(" + v + ")", x.files(v), NONE);
        }
        x.spoil(ENTRY, 1, 15, x.octet(ENTRY, 1, 15) ^ 128);
        due("can't be READ", x.files(1), NONE);
        due("ahead of that", x.files(0), 1);
    }

    private static void filesOfMinusOne() {
        Lake x = new Lake();
        due("an empty table", x.files(-1), 0);
        x = Lake.withVersions(2);
        due("with versions", x.files(-1), 0);
        x.vacuum(0);
        due("with a FLOOR", x.files(-1), 0);
        x.spoil(CHECKPOINT, 1, 0, 0);
        due("nothing can be READ", x.files(-1), 0);
        due("file(-1, 0)", x.file(-1, 0), NONE);
        due("at(-1, 0, 0)", x.at(-1, 0, 0), NONE);
        due("find", x.find(-1, 0, 1, 0), 0);
    }

    private static void fileOthers() {
        Lake x = Lake.withVersions(3);
        x.cut(0, 0, 0, 2, 1);
        due("file(3, 0)", x.file(3, 0), 0);
        due("file(3, 1)", x.file(3, 1), 2);
        due("file(3, 2)", x.file(3, 2), NONE);
        due("file(3, -1)", x.file(3, -1), NONE);
        due("file(4, 0)", x.file(4, 0), NONE);
        for (int n : FAR_OFF) {
            due("file(3, " + n + ")", x.file(3, n), NONE);
            due("file(" + n + ", 0)", x.file(n, 0), NONE);
        }
        x.spoil(DATA, 2, 0, 0);
        due("a DAMAGED FILE", x.file(3, 1), 2);
        x.spoil(ENTRY, 3, 0, 0);
        due("can't be READ", x.file(3, 0), NONE);
    }

    private static void atOthers() {
        Lake x = new Lake();
        x.append(0);
        x.row(0, 6, 1, 2, MISSING);
        x.row(0, 6, 4, 5, 6);
        x.row(0, 2, 7, 8, 9);
        x.finish(0);
        int[][] rows = {{2, 7, 8, 9}, {6, 1, 2, MISSING}, {6, 4, 5, 6}};
        for (int i = 0; i < 3; i++) {
            for (int what = 0; what < 4; what++) {
                due("at(0, " + i + ", " + what + ")", x.at(0, i, what), rows[i][what]);
            }
        }
        due("row 3", x.at(0, 3, 0), NONE);
        due("row -1", x.at(0, -1, 0), NONE);
        due("what 4", x.at(0, 0, 4), NONE);
        due("what -1", x.at(0, 0, -1), NONE);
        due("version 1", x.at(1, 0, 0), NONE);
        for (int n : FAR_OFF) {
            due("version " + n, x.at(n, 0, 0), NONE);
            due("row " + n, x.at(0, n, 0), NONE);
            due("what " + n, x.at(0, 0, n), NONE);
        }
        x.spoil(ENTRY, 0, 0, 0);
        due("can't be READ", x.at(0, 0, 0), NONE);
    }

    private static void atWithoutFiles() {
        Lake x = new Lake();
        x.add(0, 0, 10, 11);
        x.add(0, 0, 20, 21);
        x.add(0, 0, 30);
        x.spoil(DATA, 1, 0, 0);
        due("row 1", x.at(2, 1, 1), 11);
        due("row 2: a DAMAGED FILE has none", x.at(2, 2, 1), 30);
        due("row 3", x.at(2, 3, 1), NONE);
        x.forge(ENTRY, 0, 10, 9);
        due("row 0: nor has one that is gone", x.at(2, 0, 1), 30);
        due("row 1", x.at(2, 1, 1), NONE);
        due("files", x.files(2), 3);
    }

    private static void findOthers() {
        Lake x = Lake.withVersions(2);
        due("column -1", x.find(1, -1, 0, 0), NONE);
        due("column 3", x.find(1, 3, 0, 0), NONE);
        due("what -1", x.find(1, 0, -1, 0), NONE);
        due("what 3", x.find(1, 0, 3, 0), NONE);
        due("version 2", x.find(2, 0, 0, 0), NONE);
        due("version -2", x.find(-2, 0, 0, 0), NONE);
        due("version -1, column 3", x.find(-1, 3, 0, 0), NONE);
        for (int n : FAR_OFF) {
            due("version " + n, x.find(n, 0, 0, 0), NONE);
            due("column " + n, x.find(1, n, 0, 0), NONE);
            due("what " + n, x.find(1, 0, n, 0), NONE);
        }
        due("column 2", x.find(1, 2, 1, 0), 2);
        x.spoil(ENTRY, 0, 0, 0);
        due("can't be READ", x.find(1, 0, 0, 0), NONE);
    }

    private static void found(Lake x, int hits, int want, int read, int passed, int hurt, int sum) {
        due("find", hits, want);
        due("found(0), read", x.found(0), read);
        due("found(1), passed over", x.found(1), passed);
        due("found(2), DAMAGED or gone", x.found(2), hurt);
        due("found(3), the sum", x.found(3), sum);
    }

    /** FILES of 1 to 5, 5 to 9, -3 to -3, and one without a VALUE. */
    private static Lake withBounds() {
        Lake x = new Lake();
        x.add(0, 0, 1, 5, MISSING);
        x.add(0, 0, 5, 9);
        x.add(0, 1, -3);
        x.add(0, 1, MISSING);
        return x;
    }

    private static void findLess() {
        Lake x = withBounds();
        found(x, x.find(3, 0, 0, -3), 0, 0, 4, 0, 0);
        found(x, x.find(3, 0, 0, -2), 1, 1, 3, 0, -3);
        found(x, x.find(3, 1, 0, 1), 1, 1, 3, 0, -3);
        found(x, x.find(3, 1, 0, 2), 2, 2, 2, 0, -2);
        found(x, x.find(3, 2, 0, 5), 2, 2, 2, 0, -2);
        found(x, x.find(3, 2, 0, 6), 4, 3, 1, 0, 8);
        found(x, x.find(3, 0, 0, MAX), 5, 3, 1, 0, 17);
        found(x, x.find(3, 0, 0, MISSING), 0, 0, 4, 0, 0);
    }

    private static void findNotLess() {
        Lake x = withBounds();
        found(x, x.find(3, 0, 1, 10), 0, 0, 4, 0, 0);
        found(x, x.find(3, 0, 1, 9), 1, 1, 3, 0, 9);
        found(x, x.find(3, 1, 1, 6), 1, 1, 3, 0, 9);
        found(x, x.find(3, 1, 1, 5), 3, 2, 2, 0, 19);
        found(x, x.find(3, 2, 1, -2), 4, 2, 2, 0, 20);
        found(x, x.find(3, 2, 1, -3), 5, 3, 1, 0, 17);
        found(x, x.find(3, 0, 1, MISSING), 5, 3, 1, 0, 17);
        found(x, x.find(3, 0, 1, MAX), 0, 0, 4, 0, 0);
    }

    private static void findJust() {
        Lake x = withBounds();
        found(x, x.find(3, 0, 2, 5), 2, 2, 2, 0, 10);
        found(x, x.find(3, 0, 2, 1), 1, 1, 3, 0, 1);
        found(x, x.find(3, 1, 2, 9), 1, 1, 3, 0, 9);
        found(x, x.find(3, 1, 2, 3), 0, 1, 3, 0, 0);
        found(x, x.find(3, 2, 2, 0), 0, 0, 4, 0, 0);
        found(x, x.find(3, 2, 2, 10), 0, 0, 4, 0, 0);
        found(x, x.find(3, 0, 2, -3), 1, 1, 3, 0, -3);
        found(x, x.find(3, 0, 2, MISSING), 0, 0, 4, 0, 0);
    }

    private static void findDamagedOrGone() {
        Lake x = withBounds();
        x.spoil(DATA, 0, 0, 0);
        found(x, x.find(3, 0, 2, 5), 1, 1, 2, 1, 5);
        x.forge(ENTRY, 1, 10, 200);
        found(x, x.find(3, 0, 2, 5), 0, 0, 2, 2, 0);
        found(x, x.find(3, 0, 1, -3), 1, 1, 1, 2, -3);
    }

    private static void foundAheadOfAny() {
        Lake x = Lake.withVersions(1);
        for (int what = 0; what < 4; what++) {
            due("found(" + what + ")", x.found(what), 0);
        }
        due("found(-1)", x.found(-1), NONE);
        due("found(4)", x.found(4), NONE);
        for (int n : FAR_OFF) {
            due("found(" + n + ")", x.found(n), NONE);
        }
        due("a find that is NONE", x.find(1, 0, 1, 0), NONE);
        due("found(0)", x.found(0), 0);
    }

    private static void foundOfTheLatest() {
        Lake x = Lake.withVersions(3);
        found(x, x.find(2, 0, 1, 1), 2, 2, 1, 0, 3);
        found(x, x.find(3, 0, 1, 1), NONE, 2, 1, 0, 3);
        found(x, x.find(2, 3, 1, 1), NONE, 2, 1, 0, 3);
        found(x, x.find(2, 0, 3, 1), NONE, 2, 1, 0, 3);
        x.add(0, 0, 7);
        due("it stays", x.found(3), 3);
        found(x, x.find(2, 0, 2, 1), 1, 1, 2, 0, 1);
        found(x, x.find(-1, 0, 1, 0), 0, 0, 0, 0, 0);
    }

    private static void sumGoingRound() {
        Lake x = new Lake();
        x.add(0, 0, MAX, 1);
        x.add(0, 1, MAX);
        found(x, x.find(0, 0, 1, 0), 2, 1, 0, 0, Integer.MIN_VALUE);
        found(x, x.find(1, 0, 1, 0), 3, 2, 0, 0, -1);
        x.add(0, 2, -MAX, -MAX, -MAX);
        found(x, x.find(2, 0, 0, 0), 3, 1, 2, 0, -MAX + 2);
    }

    // ---------------------------------------------------------------- 19 to 22

    private static void objectsThatAreNot() {
        Lake x = Lake.withVersions(2);
        x.checkpoint(1);
        int[][] wrong = {{-1, 0}, {3, 0}, {DATA, -1}, {DATA, 2}, {ENTRY, -1}, {ENTRY, 2}, {CHECKPOINT, 0},
            {CHECKPOINT, 2}, {MISSING, 0}, {MAX, 0}, {DATA, MISSING}, {DATA, MAX}, {ENTRY, MAX}, {CHECKPOINT, -1}};
        for (int[] c : wrong) {
            String name = "(" + c[0] + ", " + c[1] + ")";
            due("size" + name, x.size(c[0], c[1]), NONE);
            due("octet" + name, x.octet(c[0], c[1], 0), NONE);
            due("spoil" + name, x.spoil(c[0], c[1], 0, 0), NONE);
        }
        due("DATA 1", x.size(DATA, 1), 40);
        due("ENTRY 1", x.size(ENTRY, 1), 16);
        due("CHECKPOINT 1", x.size(CHECKPOINT, 1), 20);
        x.vacuum(0);
        due("gone", x.size(ENTRY, 0), NONE);
        due("gone", x.octet(ENTRY, 0, 0), NONE);
        due("gone", x.spoil(ENTRY, 0, 0, 0), NONE);
    }

    private static void octetOthers() {
        Lake x = Lake.withVersions(1);
        for (int sort = 0; sort < 2; sort++) {
            int size = x.size(sort, 0);
            due("the first", x.octet(sort, 0, 0), sort == DATA ? 84 : 76);
            due("the last", x.octet(sort, 0, size - 1) >= 0, true);
            due("one behind", x.octet(sort, 0, size), NONE);
            due("one ahead", x.octet(sort, 0, -1), NONE);
            for (int n : FAR_OFF) {
                due("octet " + n, x.octet(sort, 0, n), NONE);
            }
        }
        x.spoil(DATA, 0, 0, 255);
        due("255", x.octet(DATA, 0, 0), 255);
        x.spoil(DATA, 0, 0, 128);
        due("128", x.octet(DATA, 0, 0), 128);
        x.spoil(DATA, 0, 0, 0);
        due("0", x.octet(DATA, 0, 0), 0);
    }

    private static void spoilOthers() {
        Lake x = Lake.withVersions(1);
        String before = x.hex(DATA, 0);
        due("one behind", x.spoil(DATA, 0, 40, 1), NONE);
        due("one ahead", x.spoil(DATA, 0, -1, 1), NONE);
        for (int n : FAR_OFF) {
            due("byte " + n, x.spoil(DATA, 0, n, 1), NONE);
        }
        due("nothing changes", x.hex(DATA, 0), before);
        due("size", x.size(DATA, 0), 40);
    }

    private static void lowestEightBits() {
        Lake x = Lake.withVersions(1);
        int[][] cases = {{256, 84, 0}, {255, 0, 255}, {-1, 255, 255}, {511, 255, 255}, {-256, 255, 0}, {-128, 0, 128},
            {MAX, 128, 255}, {MISSING, 255, 0}, {84 + 256 * 77, 0, 84}};
        for (int[] c : cases) {
            due("what it was", x.spoil(DATA, 0, 0, c[0]), c[1]);
            due("what it is", x.octet(DATA, 0, 0), c[2]);
        }
        due("as at first", x.at(0, 0, 0), 0);
        int last = x.octet(DATA, 0, 39);
        due("the last byte", x.spoil(DATA, 0, 39, last ^ 255), last);
        due("DAMAGED", x.at(0, 0, 0), NONE);
    }

    private static void countOthers() {
        Lake x = Lake.withVersions(1);
        due("count(-1)", x.count(-1), NONE);
        due("count(8)", x.count(8), NONE);
        for (int n : FAR_OFF) {
            due("count(" + n + ")", x.count(n), NONE);
        }
    }

    private static void counts() {
        Lake x = Lake.withVersions(2);
        x.tries(1);
        x.begin(0, 0, 1);
        x.steps(0, 2);
        x.tries(2);
        x.begin(1, 0, 1);
        x.steps(1, 2);
        x.add(2, 0, 1);
        due("steps", x.finish(0) + x.finish(1), "-3453");
        x.append(0);
        x.step(0);
        x.append(0);
        x.crash(0);
        x.checkpoint(1);
        x.checkpoint(3);
        x.spoil(CHECKPOINT, 3, 0, 0);
        counted(x, 11, 5 * 40 + 4 * 16 + 20 + 30, 5, 2, 4, 2, 1, 0);
        due("the vacuum takes the DATA of writer 0", x.vacuum(3), 1);
        counted(x, 11, 4 * 40 + 4 * 16 + 20 + 30 + 15, 5, 3, 4, 2, 1, 1);
        due("ENTRIES 0 and 1, CHECKPOINTS 0 and 1", x.vacuum(1), 4);
        counted(x, 8, 4 * 40 + 2 * 16 + 25 + 30, 5, 2, 4, 2, 1, 5);
    }

    private static void counted(Lake x, int... all) {
        for (int what = 0; what < all.length; what++) {
            due("count(" + what + ")", x.count(what), all[what]);
        }
    }

    private static void onTables() {
        sentence("An object is used for at most 512 calls", PromiseBoundaries::the512thCall);
        sentence("1: An empty store, no writers at work", PromiseBoundaries::newObject);
        sentence("1: 3 TRIES", PromiseBoundaries::threeTries);
        sentence("2: The ROOM of the store (100 to 20000): what it was", PromiseBoundaries::roomRange);
        sentence("2: NONE, changing nothing, for others", PromiseBoundaries::roomOthers);
        sentence("2: The ROOM of the store: 20000", PromiseBoundaries::roomOf20000);
        sentence("2: The ROOM of the store: 100", PromiseBoundaries::roomOf100);
        sentence("3: (1 to 8): what it was; NONE likewise", PromiseBoundaries::triesRange);
        sentence("3: TRIES of writers that begin from now on", PromiseBoundaries::triesFromNowOn);
    }

    private static void onWriters() {
        sentence("4: false, and nothing happens: there is no such writer, or it is at work",
            PromiseBoundaries::appendRefused);
        sentence("5: NONE: no such PARTITION", PromiseBoundaries::rowOfNoPartition);
        sentence("5: or it is none such", PromiseBoundaries::rowOfNoSuchWriter);
        sentence("5: or it has 48 of this PARTITION", PromiseBoundaries::rowsOfAPartition);
        sentence("5: or 96 in all", PromiseBoundaries::rowsInAll);
        sentence("5: MISSING is told by that number; the least int can't be a VALUE",
            PromiseBoundaries::missingByThatNumber);
        sentence("6: false as append(), or: no such PARTITION, column, what", PromiseBoundaries::deleteRefused);
        sentence("7: likewise", PromiseBoundaries::compactRefused);
        sentence("8: 0, and nothing happens: it is not at work", PromiseBoundaries::stepNotAtWork);
        sentence("8: 1 START .. 6 START (DONE at once); -1 to -4 FAILED", PromiseBoundaries::stepAnswers);
        sentence("9: false if it is not at work", PromiseBoundaries::crashNotAtWork);
        sentence("10: NONE for others", PromiseBoundaries::writerOthers);
        sentence("10: (0, of 1 NONE, ahead of any)", PromiseBoundaries::writerAheadOfAny);
        sentence("10: BASE (NONE ahead of START, or on an empty table)", PromiseBoundaries::baseAheadOfStart);
        sentence("10: 1 to 5 are those of the latest work, also when it is over",
            PromiseBoundaries::writerWhenItIsOver);
    }

    private static void onVersions() {
        sentence("11: 0, and nothing happens: it has one", PromiseBoundaries::checkpointIsThere);
        sentence("11: -1: there is no such version, or it can't be READ; -2: no room",
            PromiseBoundaries::checkpointOfNoVersion);
        sentence("12: (0 to 1000); NONE, and nothing happens, for another n", PromiseBoundaries::vacuumOthers);
        sentence("12: on an empty table", PromiseBoundaries::vacuumOfAnEmptyTable);
        sentence("13: NONE", PromiseBoundaries::latestOfAnEmptyTable);
        sentence("14: NONE: there is none such, or it can't be READ", PromiseBoundaries::filesOfNoVersion);
        sentence("14: (-1 as version: 0.)", PromiseBoundaries::filesOfMinusOne);
        sentence("15: NONE", PromiseBoundaries::fileOthers);
        sentence("16: NONE: no such row, or version, or what", PromiseBoundaries::atOthers);
        sentence("16: FILES that are DAMAGED or gone have none", PromiseBoundaries::atWithoutFiles);
        sentence("17: NONE as files(), or without such column, what", PromiseBoundaries::findOthers);
        sentence("17: what 0: less; FILES are passed over", PromiseBoundaries::findLess);
        sentence("17: 1: not less; FILES are passed over", PromiseBoundaries::findNotLess);
        sentence("17: 2: just a number; FILES are passed over", PromiseBoundaries::findJust);
        sentence("18: 2: that were DAMAGED or gone", PromiseBoundaries::findDamagedOrGone);
        sentence("18: 0 ahead of any; NONE for another what", PromiseBoundaries::foundAheadOfAny);
        sentence("18: Of the latest find() that was not NONE", PromiseBoundaries::foundOfTheLatest);
        sentence("18: the sum of these VALUES (going round)", PromiseBoundaries::sumGoingRound);
    }

    private static void onObjects() {
        sentence("19, 20, 21: NONE without it", PromiseBoundaries::objectsThatAreNot);
        sentence("20: Byte i of an OBJECT, 0 to 255; NONE", PromiseBoundaries::octetOthers);
        sentence("21: NONE", PromiseBoundaries::spoilOthers);
        sentence("21: becomes b (its lowest 8 bits): what it was", PromiseBoundaries::lowestEightBits);
        sentence("22: NONE for others", PromiseBoundaries::countOthers);
        sentence("22: What 0 to 7", PromiseBoundaries::counts);
    }

    public static void main(String[] args) {
        onTables();
        onWriters();
        onVersions();
        onObjects();
        end();
    }
}
