import java.util.ArrayList;
import java.util.List;

/** The boundary cases that "III. LOG" names: ENTRIES, CHECKPOINTS, the LATEST version, and what can't be READ. */
public final class LogBoundaries extends Suite {
    /** Numbers that no DATA object has. */
    private static final int FIRST_GONE = 1 << 24;
    private static final int SECOND_GONE = 1 << 25;

    private static String entry(int version, int[]... actions) {
        return Lake.hex(Lake.entry(version, actions));
    }

    private static int[] action(int kind, int number, int partition) {
        return new int[] {kind, number, partition};
    }

    // ---------------------------------------------------------------- ENTRIES and CHECKPOINTS

    private static void fromZeroOn() {
        Lake x = new Lake();
        due("steps", x.add(2, 6, 1), "123");
        due("latest", x.latest(), 0);
        due("ENTRY 0", x.hex(ENTRY, 0), entry(0, action(ADD, 0, 6)));
        due("steps", x.add(1, 5, 1), "123");
        due("latest", x.latest(), 1);
        due("ENTRY 1", x.hex(ENTRY, 1), entry(1, action(ADD, 1, 5)));
    }

    private static void removesAheadOfAdds() {
        Lake x = new Lake();
        x.add(0, 3, 1, 2);
        x.add(0, 3, 5, 6);
        x.add(0, 3, 1, 3);
        due("steps", x.cut(0, 3, 0, 2, 1), "1223");
        due("ENTRY 3", x.hex(ENTRY, 3), entry(3, action(REMOVE, 0, 3), action(REMOVE, 2, 3), action(ADD, 3, 3),
            action(ADD, 4, 3)));
    }

    private static void onlyRemovesOrOnlyAdds() {
        Lake x = new Lake();
        x.append(0);
        for (int p = 7; p >= 0; p--) {
            x.row(0, p, 1, 1, 1);
        }
        x.finish(0);
        int[][] adds = new int[8][];
        for (int p = 0; p < 8; p++) {
            adds[p] = action(ADD, p, p);
        }
        due("8 ADDS", x.hex(ENTRY, 0), entry(0, adds));
        due("steps", x.cut(0, 7, 0, 2, 1), "13");
        due("a REMOVE alone", x.hex(ENTRY, 1), entry(1, action(REMOVE, 7, 7)));
    }

    private static void addOfOneThatIsThere() {
        Lake x = new Lake();
        x.add(0, 2, 1);
        x.add(0, 3, 5);
        x.forge(ENTRY, 1, 6, ADD, 0, 0, 0, 0, 3);
        due("files", x.files(1), 1);
        due("FILE 0", x.file(1, 0), 0);
        due("its PARTITION is that of the first ADD", x.at(1, 0, 0), 2);
    }

    private static void removeOfOneThatIsNot() {
        Lake x = new Lake();
        x.add(0, 2, 1);
        x.cut(0, 2, 0, 2, 1);
        due("files", x.files(1), 0);
        x.forge(ENTRY, 1, 10, 1);
        due("files", x.files(1), 1);
        due("FILE 0", x.file(1, 0), 0);
    }

    private static void removeOfOneThatIsNoMore() {
        Lake x = new Lake();
        x.add(0, 2, 1);
        x.add(0, 2, 5);
        x.cut(0, 2, 0, 2, 1);
        x.cut(0, 2, 0, 2, 5);
        due("files", x.files(3), 0);
        x.forge(ENTRY, 3, 10, 0);
        due("FILE 0 is REMOVED twice", x.files(3), 1);
        due("FILE 1", x.file(3, 0), 1);
    }

    /** ENTRIES 0 and 1 tell each other's ADD. */
    private static void addOfALesserNumber() {
        Lake x = new Lake();
        x.add(0, 2, 20);
        x.add(0, 3, 30);
        x.forge(ENTRY, 0, 10, 1, 3);
        x.forge(ENTRY, 1, 10, 0, 2);
        due("FILE 0 of version 0", x.file(0, 0), 1);
        due("FILE 0", x.file(1, 0), 0);
        due("FILE 1", x.file(1, 1), 1);
        due("PARTITION of row 0", x.at(1, 0, 0), 2);
        due("PARTITION of row 1", x.at(1, 1, 0), 3);
    }

    private static void removedAndAddedAgain() {
        Lake x = new Lake();
        x.add(0, 2, 1, 2);
        x.cut(0, 2, 0, 2, 1);
        due("ENTRY 1", x.hex(ENTRY, 1), entry(1, action(REMOVE, 0, 2), action(ADD, 1, 2)));
        x.forge(ENTRY, 1, 16, 0);
        due("REMOVED and added by one ENTRY", x.files(1), 1);
        due("FILE 0", x.file(1, 0), 0);
        x.forge(ENTRY, 1, 17, 3);
        due("with the PARTITION that is told last", x.at(1, 0, 0), NONE);
    }

    private static void removeByNumberAlone() {
        Lake x = new Lake();
        x.add(0, 2, 1);
        x.cut(0, 2, 0, 2, 1);
        x.forge(ENTRY, 1, 11, 5);
        due("a REMOVE that tells another PARTITION", x.files(1), 0);
    }

    private static void checkpointBytes() {
        Lake x = new Lake();
        x.add(0, 7, 1);
        x.add(0, 0, 1);
        x.add(0, 3, 1);
        x.cut(0, 0, 0, 2, 1);
        x.checkpoint(2);
        due("of three", x.hex(CHECKPOINT, 2).substring(0, 42),
            "430000000203" + "0000000007" + "0000000100" + "0000000203");
        x.checkpoint(3);
        due("of two", x.hex(CHECKPOINT, 3).substring(0, 32), "430000000302" + "0000000007" + "0000000203");
        due("size", x.size(CHECKPOINT, 3), 20);
    }

    private static void checkpointOfNone() {
        Lake x = new Lake();
        x.add(0, 2, 1);
        x.cut(0, 2, 0, 2, 1);
        due("checkpoint", x.checkpoint(1), 1);
        due("size", x.size(CHECKPOINT, 1), 10);
        due("bytes", x.hex(CHECKPOINT, 1).substring(0, 12), "430000000100");
        x.spoil(ENTRY, 0, 0, 0);
        x.spoil(ENTRY, 1, 0, 0);
        due("READ by it", x.files(1), 0);
        due("START by it", x.add(0, 2, 1), "123");
        due("files", x.files(2), 1);
    }

    // ---------------------------------------------------------------- LATEST

    private static void greatestNumber() {
        Lake x = Lake.withVersions(3);
        due("latest", x.latest(), 2);
        x.spoil(ENTRY, 2, 0, 0);
        due("DAMAGED", x.latest(), 2);
        x.spoil(ENTRY, 2, 0, 76);
        x.vacuum(0);
        due("the others gone", x.latest(), 2);
        x.begin(0, 0, 1);
        x.steps(0, 2);
        due("ahead of a COMMIT", x.latest(), 2);
        x.step(0);
        due("behind it", x.latest(), 3);
    }

    private static void emptyTable() {
        Lake x = new Lake();
        due("latest", x.latest(), NONE);
        due("its FILES", x.files(-1), 0);
        due("COMPACT", x.compact(0, 0) ? x.step(0) : 0, 6);
        due("DELETE", x.cut(1, 0, 0, 1, 0), "6");
        x.begin(2, 0, 1);
        x.steps(2, 2);
        x.crash(2);
        due("a DATA object makes no version", x.latest(), NONE);
        due("vacuum", x.vacuum(0), NONE);
        due("it stays", x.count(0), 1);
    }

    // ---------------------------------------------------------------- READ

    /** Versions 0 to 4; CHECKPOINTS 1 and 3 tell FILES 101 and 103 as their last. */
    private static Lake withForgedCheckpoints() {
        Lake x = Lake.withVersions(5);
        x.checkpoint(1);
        x.checkpoint(3);
        x.forge(CHECKPOINT, 1, 14, 101);
        x.forge(CHECKPOINT, 3, 24, 103);
        return x;
    }

    private static void byTheGreatestCheckpoint() {
        Lake x = withForgedCheckpoints();
        due("version 0, by ENTRIES", x.file(0, 0), 0);
        due("version 1, by CHECKPOINT 1", x.file(1, 1), 101);
        due("version 2, by CHECKPOINT 1", x.file(2, 2), 101);
        due("version 2, and ENTRY 2", x.file(2, 1), 2);
        due("version 3, by CHECKPOINT 3", x.file(3, 3), 103);
        due("version 4, by CHECKPOINT 3", x.file(4, 4), 103);
        due("version 4, and ENTRY 4", x.file(4, 3), 4);
    }

    private static void thatIsNotDamaged() {
        Lake x = withForgedCheckpoints();
        x.spoil(CHECKPOINT, 3, 0, 0);
        due("version 4, by CHECKPOINT 1", x.file(4, 4), 101);
        due("version 3, by CHECKPOINT 1", x.file(3, 3), 101);
        x.spoil(CHECKPOINT, 1, 0, 0);
        due("version 4, by ENTRIES", x.file(4, 4), 4);
        due("version 1, by ENTRIES", x.file(1, 1), 1);
        x.spoil(CHECKPOINT, 3, 0, 67);
        due("version 4, by CHECKPOINT 3 again", x.file(4, 4), 103);
    }

    private static void entriesBehindIt() {
        Lake x = Lake.withVersions(4);
        x.checkpoint(1);
        x.spoil(ENTRY, 0, 0, 0);
        x.spoil(ENTRY, 1, 0, 0);
        due("version 0: its ENTRY is DAMAGED", x.files(0), NONE);
        due("version 1: needs no ENTRY", x.files(1), 2);
        due("version 2", x.files(2), 3);
        due("version 3", x.files(3), 4);
        x.spoil(ENTRY, 3, 0, 0);
        due("version 2: ENTRY 3 is above it", x.files(2), 3);
        due("version 3: its ENTRY is DAMAGED", x.files(3), NONE);
        x.spoil(ENTRY, 3, 0, 76);
        x.spoil(ENTRY, 2, 0, 0);
        due("version 2: the one behind the CHECKPOINT is DAMAGED", x.files(2), NONE);
        due("version 3: one on the way is DAMAGED", x.files(3), NONE);
        due("version 1", x.files(1), 2);
    }

    private static void entriesFromZero() {
        Lake x = Lake.withVersions(3);
        x.spoil(ENTRY, 0, 0, 0);
        for (int v = 0; v < 3; v++) {
            due("version " + v + ", ENTRY 0 DAMAGED", x.files(v), NONE);
        }
        x.spoil(ENTRY, 0, 0, 76);
        for (int v = 0; v < 3; v++) {
            due("version " + v, x.files(v), v + 1);
        }
    }

    private static void entryGone() {
        Lake x = Lake.withVersions(4);
        due("ENTRIES 0 and 1 go", x.vacuum(1), 2);
        due("version 2", x.files(2), 3);
        x.spoil(CHECKPOINT, 2, 0, 0);
        due("version 2: ENTRY 0 is gone", x.files(2), NONE);
        due("version 3: ENTRY 0 is gone", x.files(3), NONE);
        due("START", x.add(0, 0, 1), "-4");
        due("checkpoint", x.checkpoint(3), -1);
        due("vacuum", x.vacuum(0), NONE);
        x.spoil(CHECKPOINT, 2, 0, 67);
        due("version 3", x.files(3), 4);
    }

    private static void belowTheFloor() {
        Lake x = Lake.withVersions(1);
        x.begin(3, 1, 1);
        x.step(3);
        x.add(0, 0, 1);
        x.add(0, 0, 2);
        due("ENTRY 0 goes, ENTRY 1 stays for writer 3", x.vacuum(0), 1);
        due("ENTRY 1 is there", x.size(ENTRY, 1), 16);
        due("files", x.files(1), NONE);
        due("file", x.file(1, 0), NONE);
        due("at", x.at(1, 0, 0), NONE);
        due("find", x.find(1, 0, 1, 0), NONE);
        due("checkpoint", x.checkpoint(1), -1);
        due("at the FLOOR", x.files(2), 3);
        due("-1 as version", x.files(-1), 0);
    }

    /** Even one whose ENTRIES are all there: a writer whose BASE is NONE keeps them. */
    private static void belowTheFloorWithAllEntries() {
        Lake x = new Lake();
        x.begin(3, 1, 1);
        x.step(3);
        x.add(0, 0, 0);
        x.add(0, 0, 1);
        due("nothing goes", x.vacuum(0), 0);
        due("ENTRY 0 is there", x.size(ENTRY, 0), 16);
        due("files", x.files(0), NONE);
        due("at the FLOOR", x.files(1), 2);
    }

    // ---------------------------------------------------------------- 200 FILES

    /** Actions of one kind for FILES 0 to many - 1 of PARTITION 0, with that much more as numbers. */
    private static List<int[]> actions(int kind, int many, int more) {
        List<int[]> all = new ArrayList<>();
        for (int n = 0; n < many; n++) {
            all.add(action(kind, n + more, 0));
        }
        return all;
    }

    private static byte[] entryOf(int version, List<int[]> actions) {
        return Lake.entry(version, actions.toArray(new int[0][]));
    }

    /** REMOVES of FILES that are not there, so that those stay that a DELETE has written anew. */
    private static void keepRemoved(Lake x, int version, int many) {
        List<int[]> was = actions(REMOVE, many, 0);
        List<int[]> to = actions(REMOVE, many, FIRST_GONE);
        List<int[]> adds = actions(ADD, many, many);
        was.addAll(adds);
        to.addAll(adds);
        x.become(ENTRY, version, entryOf(version, was), entryOf(version, to));
    }

    /**
     * Versions 0 to 11, of which 9 has 200 FILES, 10 has 201, and 11 would have 200 again. 64 FILES of PARTITION 0
     * are made by DELETES whose REMOVES are forged away; two DELETES of all of them are forged to ADDS of others.
     */
    private static Lake withManyFiles() {
        Lake x = new Lake();
        x.room(20000);
        x.add(0, 0, 1, 2, 3, 4, 5, 6);
        x.add(0, 0, 1, 2, 3, 4, 5, 6);
        for (int k = 1, many = 2; k <= 5; k++, many *= 2) {
            x.cut(0, 0, 0, 2, k);
            keepRemoved(x, k + 1, many);
        }
        due("DELETE of all", x.cut(0, 0, 0, 1, 0), "13");
        x.become(ENTRY, 7, entryOf(7, actions(REMOVE, 64, 0)), entryOf(7, actions(REMOVE, 64, FIRST_GONE)));
        due("DELETE of all", x.cut(0, 0, 0, 1, 0), "13");
        x.append(0);
        for (int p = 0; p < 8; p++) {
            x.row(0, p, 1, 1, 1);
        }
        due("8 FILES more", x.finish(0), "1222222223");
        due("one more", x.add(0, 1, 2), "123");
        due("one less", x.cut(0, 1, 0, 2, 2), "13");
        x.become(ENTRY, 8, entryOf(8, actions(REMOVE, 64, 0)), entryOf(8, actions(ADD, 64, SECOND_GONE)));
        x.become(ENTRY, 7, entryOf(7, actions(REMOVE, 64, FIRST_GONE)), entryOf(7, actions(ADD, 64, FIRST_GONE)));
        return x;
    }

    private static void moreThan200Files() {
        Lake x = withManyFiles();
        due("version 8", x.files(8), 192);
        due("version 9", x.files(9), 200);
        due("the last of them", x.file(9, 199), SECOND_GONE + 63);
        due("version 10, of 201", x.files(10), NONE);
        due("version 11, with 201 on the way", x.files(11), NONE);
        due("checkpoint", x.checkpoint(10), -1);
        due("find", x.find(10, 0, 1, 0), NONE);
        due("vacuum", x.vacuum(1), NONE);
        due("START", x.append(0) ? x.step(0) : 0, -4);
        due("find in version 9", x.find(9, 0, 2, 6), 64);
        due("gone", x.found(2), 128);
        due("checkpoint of 200", x.checkpoint(9), 1);
        due("size", x.size(CHECKPOINT, 9), 1010);
    }

    public static void main(String[] args) {
        sentence("ENTRY v (from 0 on)", LogBoundaries::fromZeroOn);
        sentence("REMOVES ahead of ADDS, each by numbers", LogBoundaries::removesAheadOfAdds);
        sentence("U1 how many actions: REMOVES alone, ADDS alone", LogBoundaries::onlyRemovesOrOnlyAdds);
        sentence("(an ADD of one that is there: nothing)", LogBoundaries::addOfOneThatIsThere);
        sentence("(a REMOVE of one that is not: nothing)", LogBoundaries::removeOfOneThatIsNot);
        sentence("(a REMOVE of one that is not: nothing): it was", LogBoundaries::removeOfOneThatIsNoMore);
        sentence("FILE i of a version, by numbers: not as they were added", LogBoundaries::addOfALesserNumber);
        sentence("of ENTRIES 0 to v, in order: REMOVED and added", LogBoundaries::removedAndAddedAgain);
        sentence("those added and not removed: by number", LogBoundaries::removeByNumberAlone);
        sentence("CHECKPOINT v: U1 how many FILES it has, each U4, U1 (by numbers)", LogBoundaries::checkpointBytes);
        sentence("CHECKPOINT v: how many FILES it has: none", LogBoundaries::checkpointOfNone);
        sentence("The LATEST version: the greatest number of an ENTRY", LogBoundaries::greatestNumber);
        sentence("(NONE: the table is empty; its FILES are none)", LogBoundaries::emptyTable);
        sentence("A version is READ: by the greatest CHECKPOINT not above it", LogBoundaries::byTheGreatestCheckpoint);
        sentence("that is not DAMAGED", LogBoundaries::thatIsNotDamaged);
        sentence("and the ENTRIES behind that up to it", LogBoundaries::entriesBehindIt);
        sentence("by ENTRIES 0 to it without one; can't be READ, if one of these is DAMAGED",
            LogBoundaries::entriesFromZero);
        sentence("or gone", LogBoundaries::entryGone);
        sentence("it is below the FLOOR (V)", LogBoundaries::belowTheFloor);
        sentence("it is below the FLOOR (V), its ENTRIES there", LogBoundaries::belowTheFloorWithAllEntries);
        sentence("or more than 200 FILES would be there on the way", LogBoundaries::moreThan200Files);
        end();
    }
}
