/** The boundary cases that "V. VACUUM" names: what is RETAINED, the FLOOR, what goes, and where nothing is taken. */
public final class VacuumBoundaries extends Suite {
    /** The numbers of OBJECTS of a SORT below ten that are there. */
    private static String there(Lake x, int sort) {
        StringBuilder numbers = new StringBuilder();
        for (int n = 0; n < 10; n++) {
            if (x.size(sort, n) != NONE) {
                numbers.append(n);
            }
        }
        return numbers.toString();
    }

    private static void stay(Lake x, String data, String entries, String checkpoints) {
        due("DATA", there(x, DATA), data);
        due("ENTRIES", there(x, ENTRY), entries);
        due("CHECKPOINTS", there(x, CHECKPOINT), checkpoints);
    }

    /** Version v has FILE v alone: each one REMOVES the one ahead and writes what is left of it. */
    private static Lake withChanges(int many) {
        Lake x = new Lake();
        x.begin(0, 0, 0, 1, 2, 3, 4, 5, 6, 7, 8, 9);
        x.finish(0);
        for (int v = 1; v < many; v++) {
            x.cut(0, 0, 0, 2, v);
        }
        return x;
    }

    // ---------------------------------------------------------------- RETAINED

    private static void latestOfN() {
        Lake x = withChanges(5);
        due("n 4: all five", x.vacuum(4), 0);
        stay(x, "01234", "01234", "0");
        x = withChanges(5);
        due("n 3: four", x.vacuum(3), 2);
        stay(x, "1234", "1234", "1");
        x = withChanges(5);
        due("n 1: two", x.vacuum(1), 6);
        stay(x, "34", "34", "3");
        x = withChanges(5);
        due("n 0: the LATEST alone", x.vacuum(0), 8);
        stay(x, "4", "4", "4");
        due("files", x.files(4), 1);
        due("ROWS", x.find(4, 0, 1, 0), 6);
    }

    private static void moreThanThereAre() {
        Lake x = withChanges(3);
        due("n 1000", x.vacuum(1000), 0);
        stay(x, "012", "012", "0");
        due("version 0", x.files(0), 1);
    }

    private static void notBelowTheFloor() {
        Lake x = withChanges(4);
        due("versions 2 and 3", x.vacuum(1), 4);
        due("not below the FLOOR", x.vacuum(1000), 0);
        stay(x, "23", "23", "2");
        x.cut(0, 0, 0, 2, 4);
        due("n 2: versions 2 to 4", x.vacuum(2), 0);
        stay(x, "234", "234", "2");
        due("n 1: versions 3 and 4", x.vacuum(1), 3);
        stay(x, "34", "34", "3");
    }

    private static void floorAtFirst() {
        Lake x = withChanges(2);
        due("version 0", x.files(0), 1);
        due("all", x.vacuum(1), 0);
        due("version 0", x.files(0), 1);
        due("the LATEST alone", x.vacuum(0), 3);
        due("version 0", x.files(0), NONE);
    }

    // ---------------------------------------------------------------- nothing is taken

    private static void cannotBeRead() {
        Lake x = withChanges(4);
        x.spoil(ENTRY, 3, 0, 0);
        due("the LATEST", x.vacuum(0), NONE);
        due("of versions 1 to 3 the LATEST", x.vacuum(2), NONE);
        stay(x, "0123", "0123", "");
        due("version 0 is not below a FLOOR", x.files(0), 1);
        x.spoil(ENTRY, 3, 0, 76);
        x.checkpoint(2);
        x.spoil(ENTRY, 0, 0, 0);
        due("of versions 1 to 3 the OLDEST", x.vacuum(2), NONE);
        due("versions 2 and 3", x.vacuum(1), 4);
        due("taken", x.count(7), 4);
    }

    private static void checkpointIfItHasNone() {
        Lake x = withChanges(3);
        due("vacuum", x.vacuum(1), 2);
        due("it got one", x.size(CHECKPOINT, 1), 15);
        due("not the others", x.count(3), 1);
        x = withChanges(3);
        x.checkpoint(1);
        x.room(100);
        due("it has one, so that no room is needed", x.vacuum(1), 2);
        due("CHECKPOINTS", x.count(3), 1);
    }

    private static void checkpointRefused() {
        Lake x = withChanges(3);
        x.room(100);
        due("vacuum", x.vacuum(1), NONE);
        stay(x, "012", "012", "");
        due("no FLOOR", x.files(0), 1);
        due("taken", x.count(7), 0);
        x.room(x.count(1) + 14);
        due("one byte too few", x.vacuum(1), NONE);
        x.room(x.count(1) + 15);
        due("just enough", x.vacuum(1), 2);
    }

    // ---------------------------------------------------------------- what goes

    private static void checkpointDamaged() {
        Lake x = withChanges(4);
        x.checkpoint(0);
        x.checkpoint(2);
        x.spoil(CHECKPOINT, 2, 0, 0);
        due("DATA alone", x.vacuum(1), 2);
        stay(x, "23", "0123", "02");
        due("no FLOOR", x.files(0), 1);
        due("the FILES of version 0 are gone", x.find(0, 0, 1, 0), 0);
        due("gone", x.found(2), 1);
        due("DAMAGED as it was", x.octet(CHECKPOINT, 2, 0), 0);
        x.spoil(CHECKPOINT, 2, 0, 67);
        due("CHECKPOINT 0, ENTRIES 0 and 1", x.vacuum(1), 3);
        due("FLOOR", x.files(1), NONE);
    }

    private static void checkpointsBelow() {
        Lake x = withChanges(5);
        for (int v = 0; v < 5; v++) {
            x.checkpoint(v);
        }
        due("vacuum", x.vacuum(2), 6);
        stay(x, "234", "234", "234");
    }

    private static void entriesBelow() {
        Lake x = Lake.withVersions(5);
        due("ENTRIES 0, 1, 2", x.vacuum(1), 3);
        stay(x, "01234", "34", "3");
        due("the FLOOR", x.files(3), 4);
        due("below it", x.files(2), NONE);
    }

    /** Versions 0 to 5, writer 3 with BASE 2 (or NONE) at work. */
    private static Lake withWriter(int versionsAhead) {
        Lake x = new Lake();
        for (int v = 0; v < versionsAhead; v++) {
            x.add(0, 0, v);
        }
        x.begin(3, 1, 7);
        x.step(3);
        for (int v = versionsAhead; v < 6; v++) {
            x.add(0, 0, v);
        }
        due("BASE", x.writer(3, 1), versionsAhead - 1);
        return x;
    }

    private static void notAboveABase() {
        Lake x = withWriter(3);
        due("ENTRIES 0 to 2", x.vacuum(0), 3);
        stay(x, "012345", "345", "5");
        due("it goes on to the end of its TRIES", x.finish(3), "24545-3");
        due("ENTRIES 3 and 4, and its DATA", x.vacuum(0), 3);
        x = withWriter(3);
        due("OLDEST 2: ENTRIES 0 and 1", x.vacuum(3), 2);
        x = withWriter(3);
        due("OLDEST 3: ENTRIES 0 to 2", x.vacuum(2), 3);
        x = withWriter(3);
        due("OLDEST 4: ENTRIES 0 to 2", x.vacuum(1), 3);
    }

    private static void eachWriter() {
        for (int w = 0; w < 4; w++) {
            Lake x = Lake.withVersions(2);
            x.begin(w, 1, 1);
            x.steps(w, 2);
            x.cut((w + 1) % 4, 0, 0, 1, 0);
            x.add((w + 1) % 4, 2, 1);
            due("writer " + w + ": ENTRIES 0 and 1", x.vacuum(0), 2);
            stay(x, "0123", "23", "3");
            x.crash(w);
            due("writer " + w + ": ENTRY 2 and DATA 0 to 2", x.vacuum(0), 4);
        }
    }

    private static void baseOfNone() {
        Lake x = withWriter(0);
        due("all are above it", x.vacuum(0), 0);
        stay(x, "012345", "012345", "5");
        due("it is the FLOOR all the same", x.files(4), NONE);
        x.crash(3);
        due("ENTRIES 0 to 4", x.vacuum(0), 5);
    }

    private static void leastBaseOfSeveral() {
        Lake x = new Lake();
        for (int w = 1; w < 4; w++) {
            x.add(0, 0, w);
            x.begin(w, 1, w);
            x.step(w);
        }
        x.add(0, 0, 9);
        due("BASES 0, 1, 2: ENTRY 0", x.vacuum(0), 1);
        x.crash(1);
        due("BASES 1, 2: ENTRY 1", x.vacuum(0), 1);
        x.crash(3);
        due("BASE 1", x.vacuum(0), 0);
        x.crash(2);
        due("ENTRY 2", x.vacuum(0), 1);
    }

    private static void writersThatDoNotMatter() {
        Lake x = Lake.withVersions(2);
        x.begin(1, 1, 1);
        x.begin(2, 1, 1);
        x.step(2);
        x.crash(2);
        x.begin(3, 1, 1);
        x.steps(3, 2);
        x.room(100);
        due("FAILED", x.step(3), -1);
        x.room(6000);
        x.add(0, 0, 2);
        due("one not STARTED, one CRASHED, one FAILED: ENTRIES 0 and 1, DATA 2", x.vacuum(0), 3);
        stay(x, "013", "2", "2");
    }

    private static void baseBehindALook() {
        Lake x = withWriter(3);
        due("WRITE, LOST, LOOK", x.steps(3, 3), "245");
        due("BASE", x.writer(3, 1), 3);
        due("ENTRIES 0 to 3", x.vacuum(0), 4);
        stay(x, "0123456", "45", "5");
        due("it goes on", x.finish(3), "45-3");
    }

    private static void dataOfRetained() {
        Lake x = withChanges(4);
        due("ENTRIES 0 and 1, DATA 0 and 1", x.vacuum(1), 4);
        stay(x, "23", "23", "2");
        due("ROWS of version 2", x.find(2, 0, 1, 0), 8);
        due("ROWS of version 3", x.find(3, 0, 1, 0), 7);
        due("none is gone", x.found(2), 0);
        x.spoil(DATA, 2, 0, 0);
        due("a DAMAGED FILE stays while it is RETAINED", x.vacuum(1), 0);
        due("and goes like others", x.vacuum(0), 3);
        stay(x, "3", "3", "3");
    }

    private static void dataThatAWriterHasPut() {
        Lake x = Lake.withVersions(1);
        x.append(1);
        x.row(1, 0, 1, 1, 1);
        x.row(1, 1, 2, 2, 2);
        x.steps(1, 2);
        due("kept while it is at work", x.vacuum(0), 0);
        due("steps", x.step(1), 2);
        due("kept while it is at work", x.vacuum(0), 0);
        x.crash(1);
        due("taken", x.vacuum(0), 2);
        stay(x, "0", "0", "0");
        x.begin(1, 0, 3);
        x.steps(1, 2);
        due("kept", x.vacuum(0), 0);
        due("COMMIT", x.step(1), 3);
        due("ROWS", x.find(1, 0, 2, 3), 1);
    }

    private static void dataOfItsEarlierWork() {
        Lake x = Lake.withVersions(1);
        x.begin(1, 0, 1);
        x.steps(1, 2);
        x.crash(1);
        x.begin(1, 0, 2);
        x.step(1);
        due("STARTED, but nothing PUT by this work", x.vacuum(0), 1);
        stay(x, "0", "0", "0");
        due("steps", x.finish(1), "23");
    }

    private static void filesOfItsBase() {
        for (int kind = 0; kind < 3; kind++) {
            Lake x = Lake.withVersions(2);
            if (kind == 0) {
                x.begin(1, 5, 1);
            } else if (kind == 1) {
                x.delete(1, 0, 0, 2, 1);
            } else {
                x.compact(1, 0);
            }
            x.step(1);
            x.cut(0, 0, 0, 1, 0);
            due("KIND " + kind + ": ENTRIES 0 and 1", x.vacuum(0), 2);
            stay(x, "01", "2", "2");
            x.crash(1);
            due("KIND " + kind + ": DATA 0 and 1", x.vacuum(0), 2);
        }
    }

    private static void filesAsItStarted() {
        Lake x = Lake.withVersions(2);
        x.begin(1, 5, 1);
        x.steps(1, 2);
        x.cut(0, 0, 0, 2, 0);
        x.add(0, 0, 7);
        due("LOST, LOOK", x.steps(1, 2), "45");
        due("BASE", x.writer(1, 1), 2);
        due("ENTRIES 0 to 2", x.vacuum(0), 3);
        due("DATA 0, a FILE of version 1, stays; 2 is what it has PUT", there(x, DATA), "0123");
        due("steps", x.finish(1), "453");
        due("DATA 0, and ENTRY 3 with its CHECKPOINT", x.vacuum(0), 3);
        due("DATA", there(x, DATA), "123");
    }

    private static void filesOfOneNotStarted() {
        Lake x = Lake.withVersions(2);
        x.delete(1, 0, 0, 2, 1);
        x.cut(0, 0, 0, 1, 0);
        due("ENTRIES 0 and 1, DATA 0 and 1", x.vacuum(0), 4);
        due("START", x.step(1), 6);
    }

    public static void main(String[] args) {
        sentence("RETAINED are the LATEST n + 1 versions", VacuumBoundaries::latestOfN);
        sentence("the LATEST n + 1 versions: more than there are", VacuumBoundaries::moreThanThereAre);
        sentence("not below the FLOOR", VacuumBoundaries::notBelowTheFloor);
        sentence("(0 at first)", VacuumBoundaries::floorAtFirst);
        sentence("If one of them can't be READ, nothing is taken", VacuumBoundaries::cannotBeRead);
        sentence("The OLDEST of them gets a CHECKPOINT if it has none", VacuumBoundaries::checkpointIfItHasNone);
        sentence("(refused: nothing is taken)", VacuumBoundaries::checkpointRefused);
        sentence("If that is not DAMAGED", VacuumBoundaries::checkpointDamaged);
        sentence("the OLDEST becomes the FLOOR, CHECKPOINTS below it go", VacuumBoundaries::checkpointsBelow);
        sentence("and ENTRIES below it", VacuumBoundaries::entriesBelow);
        sentence("that are not above the BASE of a writer at work that has STARTED",
            VacuumBoundaries::notAboveABase);
        sentence("of a writer at work: each of the four", VacuumBoundaries::eachWriter);
        sentence("(NONE: all are above it)", VacuumBoundaries::baseOfNone);
        sentence("not above the BASE of a writer: of several the least", VacuumBoundaries::leastBaseOfSeveral);
        sentence("of a writer at work that has STARTED: no others", VacuumBoundaries::writersThatDoNotMatter);
        sentence("the BASE of a writer: behind a LOOK", VacuumBoundaries::baseBehindALook);
        sentence("Then DATA objects go that no RETAINED version has among its FILES",
            VacuumBoundaries::dataOfRetained);
        sentence("and that no writer at work has PUT", VacuumBoundaries::dataThatAWriterHasPut);
        sentence("and that no writer at work has PUT: not by its earlier work",
            VacuumBoundaries::dataOfItsEarlierWork);
        sentence("or has among the FILES of its BASE", VacuumBoundaries::filesOfItsBase);
        sentence("as it STARTED", VacuumBoundaries::filesAsItStarted);
        sentence("as it STARTED: not ahead of that", VacuumBoundaries::filesOfOneNotStarted);
        end();
    }
}
