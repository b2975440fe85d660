/** The boundary cases that "IV. WRITERS" names: conditions, START, WRITE, COMMIT, LOOK and CRASH. */
public final class WriterBoundaries extends Suite {
    private static void fourWriters() {
        Lake x = new Lake();
        for (int w = 0; w < 4; w++) {
            x.begin(w, w, w);
        }
        for (int w = 0; w < 4; w++) {
            due("START of writer " + w, x.step(w), 1);
        }
        due("side by side", x.steps(0, 2) + x.steps(1, 2) + x.steps(2, 2) + x.steps(3, 2), "23242424");
        for (int w : new int[] {-1, 4}) {
            due("append", x.append(w), false);
            due("delete", x.delete(w, 0, 0, 0, 0), false);
            due("compact", x.compact(w, 0), false);
            due("row", x.row(w, 0, 0, 0, 0), NONE);
            due("step", x.step(w), 0);
            due("crash", x.crash(w), false);
            due("writer", x.writer(w, 0), NONE);
        }
    }

    // ---------------------------------------------------------------- conditions

    /** The VALUES left of 4, 5, 6 and a MISSING one in a column by a DELETE; the others are all 9. */
    private static void left(String want, int column, int what, int number) {
        Lake x = new Lake();
        x.append(0);
        for (int v : new int[] {4, 5, 6, MISSING}) {
            x.row(0, 1, column == 0 ? v : 9, column == 1 ? v : 9, column == 2 ? v : 9);
        }
        x.finish(0);
        x.cut(0, 1, column, what, number);
        StringBuilder left = new StringBuilder();
        for (int i = 0; x.at(x.latest(), i, 0) != NONE; i++) {
            int v = x.at(x.latest(), i, column + 1);
            left.append(v == MISSING ? "m" : "" + v);
        }
        due("what " + what + " " + number + " in column " + column + " leaves", left.toString(), want);
    }

    private static void lessThan() {
        for (int column = 0; column < 3; column++) {
            left("456m", column, 0, 4);
            left("56m", column, 0, 5);
            left("6m", column, 0, 6);
            left("m", column, 0, 7);
        }
        left("m", 0, 0, MAX);
        left("456m", 0, 0, -MAX);
    }

    private static void notLessThan() {
        for (int column = 0; column < 3; column++) {
            left("m", column, 1, 4);
            left("4m", column, 1, 5);
            left("45m", column, 1, 6);
            left("456m", column, 1, 7);
        }
        left("456m", 0, 1, MAX);
        left("m", 0, 1, -MAX);
    }

    private static void justAs() {
        for (int column = 0; column < 3; column++) {
            left("456m", column, 2, 3);
            left("56m", column, 2, 4);
            left("46m", column, 2, 5);
            left("45m", column, 2, 6);
            left("456m", column, 2, 7);
        }
    }

    private static void missingIsNone() {
        for (int what = 0; what < 3; what++) {
            Lake x = new Lake();
            x.add(0, 0, MISSING, MISSING);
            due("what " + what, x.cut(0, 0, 0, what, 0), "6");
            due("what " + what, x.cut(0, 0, 1, what, MAX), "6");
            due("what " + what, x.cut(0, 0, 2, what, -MAX), "6");
            due("what " + what, x.cut(0, 0, 2, what, MISSING), "6");
        }
        left("456m", 0, 2, MISSING);
        left("456m", 0, 0, MISSING);
        left("m", 0, 1, MISSING);
    }

    private static void extremeValues() {
        Lake x = new Lake();
        x.add(0, 0, MAX, -MAX);
        due("not less than the greatest", x.cut(0, 0, 0, 1, MAX), "123");
        due("left", x.at(1, 0, 1), -MAX);
        due("less than the least", x.cut(0, 0, 0, 0, -MAX), "6");
        due("just the least", x.cut(0, 0, 0, 2, -MAX), "13");
        due("left", x.at(2, 0, 1), NONE);
    }

    // ---------------------------------------------------------------- START

    private static void baseIsTheLatest() {
        Lake x = Lake.withVersions(2);
        x.begin(0, 0, 1);
        x.add(1, 0, 1);
        due("ahead of START", x.writer(0, 1), NONE);
        due("START", x.step(0), 1);
        due("BASE", x.writer(0, 1), 2);
        x.add(1, 0, 1);
        due("BASE stays", x.writer(0, 1), 2);
    }

    private static void startWithoutAVersion() {
        Lake x = new Lake();
        x.begin(0, 0, 1);
        due("START", x.step(0), 1);
        due("BASE", x.writer(0, 1), NONE);
        due("COMMIT", x.finish(0), "23");
        due("version", x.writer(0, 6), 0);
    }

    private static void baseCannotBeRead() {
        Lake x = Lake.withVersions(2);
        x.spoil(ENTRY, 0, 0, 0);
        x.begin(0, 5, 1);
        due("APPEND", x.step(0), -4);
        due("APPEND without ROWS", x.append(0) ? x.step(0) : 0, -4);
        due("DELETE of a PARTITION without FILES", x.cut(0, 5, 0, 1, 0), "-4");
        due("COMPACT of such", x.compact(0, 5) ? x.step(0) : 0, -4);
        due("no more at work", x.writer(0, 0), 0);
        due("nothing is PUT", x.count(0), 4);
        due("FAILED", x.count(6), 4);
        x.spoil(ENTRY, 0, 0, 76);
        due("APPEND", x.add(0, 5, 1), "123");
    }

    private static void fileIsDamaged() {
        Lake x = Lake.withVersions(2);
        x.add(0, 1, 7);
        x.spoil(DATA, 1, 0, 0);
        due("DELETE", x.cut(0, 0, 0, 2, 0), "-4");
        due("DELETE that wants none of its FILES", x.cut(0, 0, 0, 2, 99), "-4");
        due("COMPACT", x.compact(0, 0) ? x.step(0) : 0, -4);
        due("REMOVES", x.writer(0, 5), 0);
        due("DELETE of another PARTITION", x.cut(0, 1, 0, 2, 7), "13");
        due("COMPACT of another PARTITION", x.compact(0, 1) ? x.step(0) : 0, 6);
        due("APPEND to it", x.add(0, 0, 5), "123");
        x.spoil(DATA, 1, 0, 84);
        due("DELETE", x.cut(0, 0, 0, 2, 0), "13");
    }

    private static void theOnlyFileIsDamaged() {
        Lake x = Lake.withVersions(1);
        x.spoil(DATA, 0, 0, 0);
        due("COMPACT of one FILE", x.compact(0, 0) ? x.step(0) : 0, -4);
        due("DELETE", x.cut(0, 0, 0, 2, 99), "-4");
    }

    private static void fileIsGone() {
        Lake x = Lake.withVersions(2);
        x.forge(ENTRY, 1, 10, 77);
        due("FILE 1", x.file(1, 1), 77);
        due("DELETE", x.cut(0, 0, 0, 2, 99), "-4");
        due("COMPACT", x.compact(0, 0) ? x.step(0) : 0, -4);
        due("DELETE of another PARTITION", x.cut(0, 1, 0, 1, 0), "6");
        due("APPEND", x.add(0, 0, 5), "123");
    }

    /** A damage that comes behind START does not matter: what is to be written was told there. */
    private static void damagedBehindStart() {
        Lake x = Lake.withVersions(2);
        x.compact(0, 0);
        x.step(0);
        x.spoil(DATA, 0, 0, 0);
        due("steps", x.finish(0), "23");
        due("ROWS", x.find(2, 0, 1, 0), 2);
    }

    private static void filesByBounds() {
        Lake x = new Lake();
        x.add(0, 0, 1, 5);
        x.add(0, 0, 5, 9);
        x.add(0, 0, 10, 20);
        x.add(0, 1, 1, 5);
        x.delete(0, 0, 0, 0, 5);
        x.step(0);
        due("less than 5", x.writer(0, 5), 1);
        x.delete(1, 0, 0, 1, 9);
        x.step(1);
        due("not less than 9", x.writer(1, 5), 2);
        x.delete(2, 0, 0, 2, 5);
        x.step(2);
        due("just 5", x.writer(2, 5), 2);
        due("just 7, which no ROW is within the bounds", x.cut(3, 0, 0, 2, 7), "6");
        due("REMOVES", x.writer(3, 5), 0);
    }

    private static void thoseThatHaveSome() {
        Lake x = new Lake();
        x.add(0, 0, 1, 9);
        x.add(0, 0, 1, 5, 9);
        x.add(0, 0, 2, 8);
        x.add(0, 0, 5, 5);
        due("steps", x.cut(0, 0, 0, 2, 5), "123");
        due("REMOVES", x.writer(0, 5), 2);
        due("files", x.files(4), 3);
        due("FILE 0 stays", x.file(4, 0), 0);
        due("FILE 2 stays", x.file(4, 1), 2);
        due("what is left of FILE 1", x.file(4, 2), 4);
    }

    private static void filesWithoutAValue() {
        Lake x = new Lake();
        x.append(0);
        x.row(0, 0, MISSING, 1, 1);
        x.finish(0);
        due("the bounds tell 0", x.hex(DATA, 0).substring(6, 26), "00800000000000000000");
        due("just 0", x.cut(0, 0, 0, 2, 0), "6");
        due("not less than 0", x.cut(0, 0, 0, 1, 0), "6");
        due("less than 1", x.cut(0, 0, 0, 0, 1), "6");
        due("another column", x.cut(0, 0, 1, 0, 2), "13");
    }

    private static void whatIsLeft() {
        Lake x = new Lake();
        x.add(0, 0, 1, 2);
        x.add(0, 0, 1, 1);
        x.add(0, 0, 3, 1);
        x.add(0, 0, 4, 4);
        x.delete(0, 0, 0, 2, 1);
        due("START", x.step(0), 1);
        due("REMOVES FILES 0, 1, 2", x.writer(0, 5), 3);
        due("two are left of", x.writer(0, 4), 2);
        due("steps", x.finish(0), "223");
        due("files", x.files(4), 3);
        due("FILE 3 stays", x.file(4, 0), 3);
        due("FILE 4", x.at(4, 2, 1), 2);
        due("FILE 5", x.at(4, 3, 1), 3);
        due("no more", x.at(4, 4, 1), NONE);
        due("all ROWS of all FILES", x.cut(0, 0, 0, 1, 0), "13");
        due("files", x.files(5), 0);
    }

    private static void twoOrMoreFiles() {
        Lake x = new Lake();
        due("none", x.compact(0, 3) ? x.step(0) : 0, 6);
        x.add(0, 3, 1);
        x.add(0, 4, 1);
        due("one", x.compact(0, 3) ? x.step(0) : 0, 6);
        due("no version", x.latest(), 1);
        x.add(0, 3, 2);
        x.compact(0, 3);
        due("two", x.finish(0), "123");
        due("REMOVES", x.writer(0, 5), 2);
        due("files", x.files(3), 2);
        due("one again", x.compact(0, 3) ? x.step(0) : 0, 6);
    }

    /** Two FILES of PARTITION 2, so many ROWS each, made one, two or three of at most 48. */
    private static void compacted(int first, int second, int... rows) {
        Lake x = new Lake();
        for (int k = 0; k < 2; k++) {
            x.append(0);
            for (int i = 0; i < (k == 0 ? first : second); i++) {
                x.row(0, 2, k, i, MISSING);
            }
            x.finish(0);
        }
        x.compact(1, 2);
        x.step(1);
        String name = first + " and " + second + " ROWS";
        due(name + ": to PUT", x.writer(1, 4), rows.length);
        x.finish(1);
        due(name + ": FILES", x.files(2), rows.length);
        for (int f = 0; f < rows.length; f++) {
            due(name + ": FILE " + f, x.octet(DATA, 2 + f, 2), rows[f]);
            due(name + ": PARTITION of FILE " + f, x.octet(DATA, 2 + f, 1), 2);
        }
        for (int i = 0; i < first + second; i++) {
            due(name + ": row " + i, x.at(2, i, 1) * 100 + x.at(2, i, 2), i < first ? i : 100 + i - first);
        }
        due(name + ": no more", x.at(2, first + second, 0), NONE);
    }

    private static void fortyEightRows() {
        compacted(1, 1, 2);
        compacted(47, 1, 48);
        compacted(48, 1, 48, 1);
        compacted(1, 48, 48, 1);
        compacted(48, 47, 48, 47);
        compacted(48, 48, 48, 48);
    }

    /** ROWS of other writers that STARTED ahead of it are not among its own. */
    private static void compactBehindOthers() {
        Lake x = new Lake();
        x.add(0, 7, 1);
        x.add(0, 7, 2);
        x.begin(1, 7, 8, 9);
        x.step(1);
        x.compact(0, 7);
        due("START", x.step(0), 1);
        due("steps", x.finish(0), "23");
        due("ROWS", x.find(2, 0, 1, 0), 2);
        due("sum", x.found(3), 3);
    }

    private static void appendByPartitions() {
        Lake x = new Lake();
        x.append(0);
        int[] partitions = {7, 0, 3, 7, 0};
        for (int i = 0; i < partitions.length; i++) {
            x.row(0, partitions[i], i, i, i);
        }
        due("steps", x.finish(0), "12223");
        int[][] rows = {{0, 1}, {0, 4}, {3, 2}, {7, 0}, {7, 3}};
        for (int i = 0; i < rows.length; i++) {
            due("PARTITION of row " + i, x.at(0, i, 0), rows[i][0]);
            due("row " + i, x.at(0, i, 1), rows[i][1]);
        }
        due("PARTITION of DATA 0", x.octet(DATA, 0, 1), 0);
        due("PARTITION of DATA 2", x.octet(DATA, 2, 1), 7);
    }

    private static void doneAtOnce() {
        Lake x = Lake.withVersions(1);
        due("APPEND without ROWS", x.append(1) ? x.step(1) : 0, 6);
        due("no more at work", x.writer(1, 0), 0);
        due("BASE", x.writer(1, 1), 0);
        due("no version", x.writer(1, 6), NONE);
        due("DELETE of nothing", x.cut(1, 0, 0, 0, 0), "6");
        due("COMPACT of one FILE", x.compact(1, 0) ? x.step(1) : 0, 6);
        due("latest", x.latest(), 0);
        due("OBJECTS", x.count(0), 2);
        due("commits", x.count(4), 1);
        due("FAILED", x.count(6), 0);
        due("a step more", x.step(1), 0);
    }

    // ---------------------------------------------------------------- WRITE

    private static void aStepEach() {
        Lake x = new Lake();
        x.append(0);
        for (int p = 0; p < 8; p++) {
            x.row(0, p, p, p, p);
        }
        x.step(0);
        for (int k = 0; k < 8; k++) {
            due("to PUT", x.writer(0, 4), 8 - k);
            due("WRITE", x.step(0), 2);
            due("PUT", x.writer(0, 3), k + 1);
            due("DATA " + k, x.octet(DATA, k, 1), k);
        }
        due("no ENTRY yet", x.latest(), NONE);
        due("COMMIT", x.step(0), 3);
    }

    private static void leastNumberThatNoneHasHad() {
        Lake x = new Lake();
        x.begin(0, 0, 1);
        x.steps(0, 2);
        x.crash(0);
        due("of a writer that CRASHED", x.count(2), 1);
        x.begin(0, 0, 2);
        x.begin(1, 0, 3);
        due("steps", x.steps(0, 1) + x.steps(1, 2) + x.finish(0), "11223");
        due("by the order of WRITES", x.file(0, 0), 2);
        x.crash(1);
        due("the vacuum takes DATA 0 and 1", x.vacuum(0), 2);
        x.add(0, 0, 4);
        due("numbers are not used again", x.file(1, 1), 3);
    }

    private static void writeRefused() {
        Lake x = Lake.withVersions(1);
        x.append(0);
        x.row(0, 0, 1, 1, 1);
        x.row(0, 1, 1, 1, 1);
        x.room(100);
        due("steps", x.finish(0), "12-1");
        due("no more at work", x.writer(0, 0), 0);
        due("PUT", x.writer(0, 3), 1);
        due("still to PUT", x.writer(0, 4), 1);
        due("its OBJECT stays", x.size(DATA, 1), 40);
        due("the refused one has had no number", x.count(2), 2);
        due("FAILED", x.count(6), 1);
        x.room(6000);
        due("it is over", x.step(0), 0);
        x.add(0, 0, 2);
        due("the next number", x.file(1, 1), 2);
    }

    // ---------------------------------------------------------------- COMMIT and LOOK

    /** Writer 0 has written and is about to COMMIT as writer 1 gets so many versions ahead of it. */
    private static Lake overtaken(int tries, int versions) {
        Lake x = new Lake();
        x.tries(tries);
        x.begin(0, 0, 1);
        x.steps(0, 2);
        for (int v = 0; v < versions; v++) {
            x.add(1, 1, v);
        }
        return x;
    }

    private static void lastOfItsTries() {
        due("1 try", overtaken(1, 1).finish(0), "-3");
        due("2 tries, LOST once", overtaken(2, 1).finish(0), "453");
        due("2 tries", overtaken(2, 2).finish(0), "45-3");
        due("8 tries, LOST 7 times", overtaken(8, 7).finish(0), "454545454545453");
        due("8 tries", overtaken(8, 8).finish(0), "45454545454545-3");
        Lake x = overtaken(3, 3);
        due("3 tries", x.finish(0), "4545-3");
        due("LOST", x.writer(0, 2), 3);
        due("BASE: no LOOK behind the last one", x.writer(0, 1), 1);
        due("no more at work", x.writer(0, 0), 0);
        due("LOST in all", x.count(5), 3);
        due("FAILED", x.count(6), 1);
        due("its DATA stays", x.size(DATA, 0), 40);
    }

    private static void commitWithVersion() {
        Lake x = overtaken(3, 2);
        due("steps", x.finish(0), "45453");
        due("version", x.writer(0, 6), 2);
        due("BASE", x.writer(0, 1), 1);
        due("latest", x.latest(), 2);
        due("the ENTRY tells its own number", x.octet(ENTRY, 2, 4), 2);
        due("files", x.files(2), 3);
    }

    private static void commitRefusedForRoom() {
        Lake x = Lake.withVersions(2);
        x.begin(0, 0, 1);
        x.steps(0, 2);
        x.room(100);
        due("COMMIT", x.step(0), -1);
        due("the version of its latest commit", x.writer(0, 6), 1);
        due("no version more", x.latest(), 1);
        due("LOST", x.writer(0, 2), 0);
        due("FAILED", x.count(6), 1);
        due("commits", x.count(4), 2);
    }

    private static void lostAheadOfNoRoom() {
        Lake x = overtaken(3, 1);
        x.room(100);
        due("an ENTRY is there, and no room for another: LOST", x.step(0), 4);
        due("LOOK", x.step(0), 5);
        due("refused", x.step(0), -1);
    }

    private static void lookDamaged() {
        Lake x = overtaken(3, 2);
        x.spoil(ENTRY, 0, 15, x.octet(ENTRY, 0, 15) ^ 1);
        due("LOST: an ENTRY is there, DAMAGED as it is", x.step(0), 4);
        due("LOOK", x.step(0), -4);
        due("BASE", x.writer(0, 1), 0);
        due("no more at work", x.writer(0, 0), 0);
        x = overtaken(3, 2);
        x.spoil(ENTRY, 1, 0, 0);
        due("the second one", x.finish(0), "454-4");
    }

    /** Writer 0 DELETES or COMPACTS PARTITION 3 as writer 1 commits another version. */
    private static Lake aboutToCommit(int kind) {
        Lake x = new Lake();
        x.add(1, 3, 1, 2);
        x.add(1, 3, 1, 3);
        if (kind == 1) {
            x.delete(0, 3, 0, 2, 1);
        } else {
            x.compact(0, 3);
        }
        x.step(0);
        return x;
    }

    private static void lookConflict() {
        for (int kind = 1; kind <= 2; kind++) {
            String written = kind == 1 ? "22" : "2";
            Lake x = aboutToCommit(kind);
            x.add(1, 3, 9);
            due("an ADD of its PARTITION", x.finish(0), written + "4-2");
            due("BASE", x.writer(0, 1), 2);
            x = aboutToCommit(kind);
            x.cut(1, 3, 0, 1, 0);
            due("REMOVES of its PARTITION", x.finish(0), written + "4-2");
            for (int other : new int[] {0, 7}) {
                x = aboutToCommit(kind);
                x.append(1);
                x.row(1, other, 1, 1, 1);
                x.row(1, 3, 1, 1, 1);
                x.finish(1);
                due("one of two", x.finish(0), written + "4-2");
            }
            x = aboutToCommit(kind);
            x.add(1, 2, 9);
            x.add(1, 4, 9);
            due("other PARTITIONS", x.finish(0), written + "45453");
            x = aboutToCommit(kind);
            x.add(1, 2, 9);
            x.add(1, 3, 9);
            due("the second one", x.finish(0), written + "454-2");
        }
    }

    private static void lookDamagedAheadOfConflict() {
        Lake x = aboutToCommit(1);
        x.add(1, 3, 9);
        x.spoil(ENTRY, 2, 0, 0);
        due("DAMAGED, of its PARTITION", x.finish(0), "224-4");
    }

    private static void appendHasNoConflict() {
        Lake x = Lake.withVersions(1);
        x.begin(0, 0, 5);
        x.step(0);
        x.add(1, 0, 6);
        due("steps", x.finish(0), "2453");
        due("files", x.files(2), 3);
    }

    // ---------------------------------------------------------------- CRASH

    private static void crashed() {
        Lake x = new Lake();
        x.begin(0, 0, 1);
        due("ahead of START", x.crash(0), true);
        x.append(0);
        x.row(0, 0, 1, 1, 1);
        x.row(0, 1, 2, 2, 2);
        x.steps(0, 2);
        due("ahead of the second WRITE", x.crash(0), true);
        due("no more at work", x.writer(0, 0), 0);
        due("step", x.step(0), 0);
        due("its OBJECT stays", x.size(DATA, 0), 40);
        due("no version", x.latest(), NONE);
        due("not FAILED", x.count(6), 0);
        due("new work", x.add(0, 0, 1), "123");
        x = overtaken(3, 1);
        x.step(0);
        due("ahead of a LOOK", x.crash(0), true);
        due("its latest work is told", x.writer(0, 2), 1);
        due("new work begins with START", x.add(0, 0, 1), "123");
    }

    public static void main(String[] args) {
        sentence("WRITERS 0 to 3", WriterBoundaries::fourWriters);
        sentence("(what 0) less than", WriterBoundaries::lessThan);
        sentence("(1) not less than", WriterBoundaries::notLessThan);
        sentence("(2) just as a number", WriterBoundaries::justAs);
        sentence("(MISSING: none of these)", WriterBoundaries::missingIsNone);
        sentence("the greatest and the least VALUE", WriterBoundaries::extremeValues);
        sentence("START: its BASE is the LATEST version", WriterBoundaries::baseIsTheLatest);
        sentence("(without one: no FILES)", WriterBoundaries::startWithoutAVersion);
        sentence("FAILED 4, if it can't be", WriterBoundaries::baseCannotBeRead);
        sentence("or if (DELETE, COMPACT) a FILE of its PARTITION is DAMAGED", WriterBoundaries::fileIsDamaged);
        sentence("a FILE of its PARTITION is DAMAGED: the only one", WriterBoundaries::theOnlyFileIsDamaged);
        sentence("or gone", WriterBoundaries::fileIsGone);
        sentence("DAMAGED behind START", WriterBoundaries::damagedBehindStart);
        sentence("that may have such ROWS by the bounds that they tell", WriterBoundaries::filesByBounds);
        sentence("(without a VALUE: none)", WriterBoundaries::filesWithoutAValue);
        sentence("those that have some are REMOVED", WriterBoundaries::thoseThatHaveSome);
        sentence("what is left of each, if anything, is one new DATA object", WriterBoundaries::whatIsLeft);
        sentence("A COMPACT wants all FILES of its PARTITION, if they are two or more",
            WriterBoundaries::twoOrMoreFiles);
        sentence("new DATA objects of 48 ROWS (the last one of what is left)", WriterBoundaries::fortyEightRows);
        sentence("and their ROWS: of no others", WriterBoundaries::compactBehindOthers);
        sentence("one DATA object for each PARTITION, by PARTITIONS (ROWS in the order they came)",
            WriterBoundaries::appendByPartitions);
        sentence("One that adds and removes nothing is DONE at once (without a version)",
            WriterBoundaries::doneAtOnce);
        sentence("WRITE: one DATA object is PUT; a step each", WriterBoundaries::aStepEach);
        sentence("of the least number that no DATA object has had yet",
            WriterBoundaries::leastNumberThatNoneHasHad);
        sentence("FAILED 1 where it is refused", WriterBoundaries::writeRefused);
        sentence("FAILED 3 if that was the last of its TRIES", WriterBoundaries::lastOfItsTries);
        sentence("COMMIT: ENTRY BASE + 1 is PUT: it is DONE, with that version",
            WriterBoundaries::commitWithVersion);
        sentence("Refused for room: FAILED 1", WriterBoundaries::commitRefusedForRoom);
        sentence("Where there is one already the try is LOST: ahead of no room", WriterBoundaries::lostAheadOfNoRoom);
        sentence("LOOK: FAILED 4 if it is DAMAGED", WriterBoundaries::lookDamaged);
        sentence("FAILED 2 if the writer is no APPEND and a PARTITION of its actions is that of the writer",
            WriterBoundaries::lookConflict);
        sentence("FAILED 4 ahead of FAILED 2", WriterBoundaries::lookDamagedAheadOfConflict);
        sentence("FAILED 2 if the writer is no APPEND", WriterBoundaries::appendHasNoConflict);
        sentence("CRASH: the writer is no more at work; its OBJECTS stay", WriterBoundaries::crashed);
        end();
    }
}
