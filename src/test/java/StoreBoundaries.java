/** The boundary cases that "I. STORE" names: what is PUT, what is refused, VARINTS, CHECKS, and what is DAMAGED. */
public final class StoreBoundaries extends Suite {
    // ---------------------------------------------------------------- PUT

    private static void putWhereOneIs() {
        Lake x = new Lake();
        x.begin(0, 0, 1);
        x.begin(1, 3, 2);
        due("steps", x.steps(0, 2) + x.steps(1, 2) + x.step(0), "12123");
        String before = x.hex(ENTRY, 0);
        due("COMMIT of an ENTRY where there is one", x.step(1), 4);
        due("it stays", x.hex(ENTRY, 0), before);
        due("checkpoint", x.checkpoint(0), 1);
        x.spoil(CHECKPOINT, 0, 0, 9);
        due("checkpoint where there is one", x.checkpoint(0), 0);
        due("it stays, DAMAGED as it is", x.octet(CHECKPOINT, 0, 0), 9);
        due("OBJECTS", x.count(0), 4);
    }

    private static void numbersAreOfASort() {
        Lake x = Lake.withVersions(1);
        x.checkpoint(0);
        due("DATA 0", x.octet(DATA, 0, 0), 84);
        due("ENTRY 0", x.octet(ENTRY, 0, 0), 76);
        due("CHECKPOINT 0", x.octet(CHECKPOINT, 0, 0), 67);
    }

    private static Lake withRoom(int bytes) {
        Lake x = Lake.withVersions(2);
        due("bytes", x.count(1), 112);
        x.room(bytes);
        return x;
    }

    private static void dataAndRoom() {
        Lake x = withRoom(152);
        due("112 + 40 bytes in a ROOM of 152", x.add(1, 0, 7), "12-1");
        due("bytes", x.count(1), 152);
        x = withRoom(151);
        due("112 + 40 bytes in a ROOM of 151", x.add(1, 0, 7), "1-1");
        due("bytes", x.count(1), 112);
    }

    private static void entryAndRoom() {
        Lake x = withRoom(168);
        due("152 + 16 bytes in a ROOM of 168", x.add(1, 0, 7), "123");
        due("bytes", x.count(1), 168);
        x = withRoom(167);
        due("152 + 16 bytes in a ROOM of 167", x.add(1, 0, 7), "12-1");
        due("no ENTRY", x.size(ENTRY, 2), NONE);
    }

    private static void checkpointAndRoom() {
        Lake x = withRoom(132);
        due("112 + 20 bytes in a ROOM of 132", x.checkpoint(1), 1);
        due("bytes", x.count(1), 132);
        x = withRoom(131);
        due("112 + 20 bytes in a ROOM of 131", x.checkpoint(1), -2);
        due("no CHECKPOINT", x.size(CHECKPOINT, 1), NONE);
    }

    private static void vacuumAndRoom() {
        Lake x = withRoom(132);
        due("112 + 20 bytes in a ROOM of 132", x.vacuum(0), 1);
        x = withRoom(131);
        due("112 + 20 bytes in a ROOM of 131", x.vacuum(0), NONE);
        due("OBJECTS", x.count(0), 4);
    }

    private static void roomBelowWhatIsThere() {
        Lake x = withRoom(100);
        due("OBJECTS stay", x.count(0), 4);
        due("bytes stay", x.count(1), 112);
        due("they are READ", x.find(1, 0, 1, 0), 2);
        due("nothing is PUT", x.add(0, 0, 1), "1-1");
        x.room(20000);
        due("a greater ROOM", x.add(0, 0, 1), "123");
    }

    private static void firstRoom() {
        Lake x = new Lake();
        x.fillUpTo(6000 - 65);
        due("65 bytes more", x.addBytes(65), "123");
        due("bytes", x.count(1), 6000);
        due("not one more", x.checkpoint(x.latest()), -2);
        x = new Lake();
        x.fillUpTo(6000 - 64);
        due("65 bytes more", x.addBytes(65), "12-1");
        due("bytes", x.count(1), 6000 - 64 + 49);
    }

    /** Versions 0 to 10 of 8 FILES each. */
    private static Lake with99Objects() {
        Lake x = new Lake();
        x.room(20000);
        for (int v = 0; v < 11; v++) {
            x.append(0);
            for (int p = 0; p < 8; p++) {
                x.row(0, p, v, v, v);
            }
            due("steps", x.finish(0), "1222222223");
        }
        due("OBJECTS", x.count(0), 99);
        return x;
    }

    private static void hundredObjects() {
        Lake x = with99Objects();
        due("the hundredth, a CHECKPOINT", x.checkpoint(10), 1);
        due("a CHECKPOINT more", x.checkpoint(9), -2);
        due("a DATA object more", x.add(0, 0, 1), "1-1");
        due("an ENTRY more", x.cut(0, 0, 0, 1, 0), "1-1");
        due("OBJECTS", x.count(0), 100);
        x = with99Objects();
        due("the hundredth, DATA, and an ENTRY more", x.add(0, 0, 1), "12-1");
        due("a CHECKPOINT for the vacuum more", x.vacuum(0), NONE);
        due("OBJECTS", x.count(0), 100);
        x = with99Objects();
        due("the hundredth, an ENTRY", x.cut(0, 0, 0, 1, 0), "13");
        due("OBJECTS", x.count(0), 100);
    }

    private static void fewerThanHundredAgain() {
        Lake x = with99Objects();
        x.checkpoint(10);
        due("ENTRIES 0 to 9 go", x.vacuum(0), 10);
        due("PUT again", x.add(0, 0, 1), "123");
    }

    private static void objectsStay() {
        Lake x = Lake.withVersions(3);
        String data = x.hex(DATA, 1);
        String entry = x.hex(ENTRY, 2);
        x.checkpoint(2);
        String checkpoint = x.hex(CHECKPOINT, 2);
        x.cut(0, 0, 0, 2, 1);
        x.compact(1, 0);
        x.finish(1);
        x.add(2, 1, 5);
        x.vacuum(3);
        due("a REMOVED FILE", x.hex(DATA, 1), data);
        due("an ENTRY", x.hex(ENTRY, 2), entry);
        due("a CHECKPOINT", x.hex(CHECKPOINT, 2), checkpoint);
        x.spoil(DATA, 1, 0, 85);
        due("spoil() changes one byte", x.hex(DATA, 1), "55" + data.substring(2));
    }

    // ---------------------------------------------------------------- VARINT and CHECK

    private static void varint(int x, String bytes) {
        int next = x < 0 ? x + 1 : x - 1;
        Lake lake = new Lake();
        lake.begin(0, 0, x, next, x, next);
        lake.finish(0);
        String want = "0200" + bytes + (x < 0 ? "020102" : "010201");
        due("VARINT of " + x, lake.hex(DATA, 0).substring(6, 6 + want.length()), want);
        due("is told as it was", lake.at(0, 2, 3), x);
    }

    private static void varints() {
        varint(0, "00");
        varint(-1, "01");
        varint(1, "02");
        varint(63, "7e");
        varint(-64, "7f");
        varint(64, "8001");
        varint(-65, "8101");
        varint(8191, "fe7f");
        varint(-8192, "ff7f");
        varint(8192, "808001");
        varint(-8193, "818001");
        varint((1 << 20) - 1, "feff7f");
        varint(-(1 << 20), "ffff7f");
        varint(1 << 20, "80808001");
        varint(-(1 << 20) - 1, "81808001");
        varint((1 << 27) - 1, "feffff7f");
        varint(-(1 << 27), "ffffff7f");
        varint(1 << 27, "8080808001");
        varint(-(1 << 27) - 1, "8180808001");
        varint(Integer.MAX_VALUE, "feffffff0f");
        varint(-Integer.MAX_VALUE, "fdffffff0f");
    }

    private static void checks() {
        Lake x = new Lake();
        x.begin(0, 5, 1, -2, 300);
        x.finish(0);
        x.checkpoint(0);
        for (int sort = 0; sort < 3; sort++) {
            byte[] bytes = x.bytes(sort, 0);
            due("SORT " + sort, Lake.hex(bytes), Lake.hex(Lake.sealed(bytes)));
        }
        due("the CHECK of ENTRY 0", x.hex(ENTRY, 0), "4c000000000101000000000553fd1080");
    }

    /** Whether DATA 0, ENTRY 0 or CHECKPOINT 0 is not DAMAGED, seen from outside; ENTRY 0 must be so for DATA. */
    private static boolean isSound(Lake x, int sort) {
        if (sort == DATA) {
            return x.at(0, 0, 0) != NONE;
        }
        if (sort == ENTRY) {
            return x.files(0) != NONE;
        }
        int was = x.spoil(ENTRY, 0, 0, 0);
        boolean isRead = x.files(0) != NONE;
        x.spoil(ENTRY, 0, 0, was);
        return isRead;
    }

    private static void wrongChecks() {
        for (int sort = 0; sort < 3; sort++) {
            Lake x = Lake.withVersions(1);
            if (sort == CHECKPOINT) {
                x.checkpoint(0);
            }
            int size = x.size(sort, 0);
            for (int i = 0; i < size; i++) {
                int was = x.octet(sort, 0, i);
                x.spoil(sort, 0, i, was ^ 1 << i % 8);
                due("SORT " + sort + " with another byte " + i, isSound(x, sort), false);
                x.spoil(sort, 0, i, was);
            }
            due("SORT " + sort + " as it was", isSound(x, sort), true);
        }
    }

    // ---------------------------------------------------------------- DAMAGED though the CHECK is right

    /** ENTRY 2: REMOVE 0, REMOVE 1, ADD 2, ADD 3, of 6 bytes each from byte 6 on. */
    private static Lake withFourActions() {
        Lake x = new Lake();
        x.add(0, 0, 1, 2);
        x.add(0, 0, 1, 3);
        due("steps", x.cut(0, 0, 0, 2, 1), "1223");
        return x;
    }

    /** How many FILES version 2 has if bytes of ENTRY 2 are others. */
    private static void entryWith(int files, int i, int... b) {
        Lake x = withFourActions();
        x.forge(ENTRY, 2, i, b);
        due("files by ENTRY 2 with " + b[0] + " from byte " + i + " on", x.files(2), files);
    }

    /** How many FILES version 2 has by its CHECKPOINT alone (FILES 2 and 3, of 5 bytes each from byte 6 on). */
    private static Lake checkpointWith(int files, int i, int... b) {
        Lake x = withFourActions();
        x.checkpoint(2);
        x.forge(CHECKPOINT, 2, i, b);
        x.spoil(ENTRY, 2, 0, 0);
        due("files by CHECKPOINT 2 with " + b[0] + " from byte " + i + " on", x.files(2), files);
        return x;
    }

    private static void entryFrame() {
        entryWith(2, 0, 76);
        entryWith(NONE, 0, 77);
        entryWith(NONE, 0, 67);
        entryWith(NONE, 5, 3);
        entryWith(NONE, 5, 5);
        entryWith(NONE, 5, 0);
        entryWith(NONE, 5, 255);
    }

    private static void entryNumber() {
        entryWith(2, 1, 0, 0, 0, 2);
        entryWith(NONE, 1, 0, 0, 0, 1);
        entryWith(NONE, 1, 0, 0, 0, 3);
        entryWith(NONE, 1, 1, 0, 0, 2);
        entryWith(NONE, 1, 128, 0, 0, 2);
    }

    private static void entryKinds() {
        entryWith(NONE, 6, 0);
        entryWith(NONE, 6, 3);
        entryWith(NONE, 24, 0);
        entryWith(NONE, 24, 3);
        entryWith(NONE, 6, 1);
        entryWith(NONE, 24, 2);
        entryWith(3, 12, 1);
        entryWith(1, 18, 2);
    }

    private static void entryRising() {
        entryWith(NONE, 10, 1);
        entryWith(NONE, 10, 2);
        entryWith(NONE, 16, 0);
        entryWith(3, 16, 9);
        entryWith(NONE, 22, 3);
        entryWith(NONE, 22, 4);
        entryWith(NONE, 28, 2);
        entryWith(2, 28, 9);
        entryWith(2, 22, 0);
        entryWith(2, 22, 1);
    }

    private static void entryNumbersBelow() {
        entryWith(3, 13, 127, 255, 255, 255);
        entryWith(NONE, 13, 128, 0, 0, 0);
        entryWith(NONE, 13, 255, 255, 255, 255);
        entryWith(2, 25, 127, 255, 255, 255);
        entryWith(NONE, 25, 128, 0, 0, 0);
        entryWith(NONE, 25, 255, 255, 255, 255);
        entryWith(NONE, 7, 255, 255, 255, 255);
        Lake x = withFourActions();
        x.forge(ENTRY, 2, 25, 127, 255, 255, 255);
        due("FILE 1", x.file(2, 1), Integer.MAX_VALUE);
    }

    private static void entryPartition() {
        entryWith(2, 11, 7);
        entryWith(NONE, 11, 8);
        entryWith(2, 29, 7);
        entryWith(NONE, 29, 8);
        entryWith(NONE, 29, 255);
    }

    private static void checkpointFrame() {
        checkpointWith(2, 0, 67);
        checkpointWith(NONE, 0, 66);
        checkpointWith(NONE, 0, 76);
        checkpointWith(NONE, 5, 1);
        checkpointWith(NONE, 5, 3);
        checkpointWith(NONE, 5, 0);
        checkpointWith(NONE, 5, 255);
    }

    private static void checkpointNumber() {
        checkpointWith(2, 1, 0, 0, 0, 2);
        checkpointWith(NONE, 1, 0, 0, 0, 1);
        checkpointWith(NONE, 1, 0, 0, 0, 3);
        checkpointWith(NONE, 1, 1, 0, 0, 2);
    }

    private static void checkpointRising() {
        checkpointWith(NONE, 9, 3);
        checkpointWith(NONE, 9, 4);
        checkpointWith(NONE, 14, 2);
        checkpointWith(NONE, 14, 1);
        due("FILE 0", checkpointWith(2, 9, 0).file(2, 0), 0);
        due("FILE 1", checkpointWith(2, 14, 200).file(2, 1), 200);
    }

    private static void checkpointNumbersBelow() {
        due("FILE 1", checkpointWith(2, 11, 127, 255, 255, 255).file(2, 1), Integer.MAX_VALUE);
        checkpointWith(NONE, 11, 128, 0, 0, 0);
        checkpointWith(NONE, 11, 255, 255, 255, 255);
        checkpointWith(NONE, 6, 255, 255, 255, 255);
    }

    private static void checkpointPartition() {
        checkpointWith(2, 10, 7);
        checkpointWith(NONE, 10, 8);
        checkpointWith(NONE, 15, 255);
    }

    private static void anotherPartition() {
        Lake x = new Lake();
        x.add(0, 4, 1, 2);
        x.forge(ENTRY, 0, 11, 5);
        due("it is among the FILES", x.files(0), 1);
        due("it has no ROWS", x.at(0, 0, 0), NONE);
        due("find", x.find(0, 0, 1, 0), 0);
        due("DAMAGED", x.found(2), 1);
        due("DELETE of the PARTITION that the log tells", x.cut(0, 5, 0, 1, 0), "-4");
        due("COMPACT of it", x.compact(0, 5) ? x.step(0) : 0, -4);
        due("DELETE of the PARTITION that it has: no such FILE", x.cut(0, 4, 0, 1, 0), "6");
        x.forge(DATA, 0, 1, 5);
        due("as the log tells", x.at(0, 0, 0), 5);
        due("DELETE", x.cut(0, 5, 0, 1, 0), "13");
    }

    private static void anotherPartitionInACheckpoint() {
        Lake x = new Lake();
        x.add(0, 4, 1, 2);
        x.checkpoint(0);
        x.forge(CHECKPOINT, 0, 10, 3);
        due("it is among the FILES", x.files(0), 1);
        due("it has no ROWS", x.at(0, 0, 0), NONE);
        x.spoil(CHECKPOINT, 0, 0, 0);
        due("by the ENTRY it has", x.at(0, 0, 0), 4);
    }

    public static void main(String[] args) {
        sentence("PUT: refused where there is one of this SORT and number (it stays)",
            StoreBoundaries::putWhereOneIs);
        sentence("OBJECTS have a SORT, a number, bytes", StoreBoundaries::numbersAreOfASort);
        sentence("or where the bytes of all OBJECTS together would be above the ROOM: DATA",
            StoreBoundaries::dataAndRoom);
        sentence("or where the bytes of all OBJECTS together would be above the ROOM: ENTRY",
            StoreBoundaries::entryAndRoom);
        sentence("or where the bytes of all OBJECTS together would be above the ROOM: CHECKPOINT",
            StoreBoundaries::checkpointAndRoom);
        sentence("or where the bytes of all OBJECTS together would be above the ROOM: CHECKPOINT of a VACUUM",
            StoreBoundaries::vacuumAndRoom);
        sentence("a ROOM below the bytes that are there", StoreBoundaries::roomBelowWhatIsThere);
        sentence("the ROOM (6000 at first)", StoreBoundaries::firstRoom);
        sentence("or there are 100", StoreBoundaries::hundredObjects);
        sentence("or there are 100, and then fewer", StoreBoundaries::fewerThanHundredAgain);
        sentence("They never change but by spoil()", StoreBoundaries::objectsStay);
        sentence("A VARINT of an int x", StoreBoundaries::varints);
        sentence("CHECK of bytes: CRC-32", StoreBoundaries::checks);
        sentence("Each OBJECT ends with its CHECK; where that is not so it is DAMAGED",
            StoreBoundaries::wrongChecks);
        sentence("its bytes are not just those that III makes: an ENTRY", StoreBoundaries::entryFrame);
        sentence("an ENTRY with its own number", StoreBoundaries::entryNumber);
        sentence("U1 1 ADD or 2 REMOVE; REMOVES ahead of ADDS", StoreBoundaries::entryKinds);
        sentence("REMOVES and ADDS each by rising numbers", StoreBoundaries::entryRising);
        sentence("REMOVES and ADDS below 2^31", StoreBoundaries::entryNumbersBelow);
        sentence("a PARTITION (0 to 7) in an ENTRY", StoreBoundaries::entryPartition);
        sentence("its bytes are not just those that III makes: a CHECKPOINT", StoreBoundaries::checkpointFrame);
        sentence("a CHECKPOINT with its own number", StoreBoundaries::checkpointNumber);
        sentence("FILES by rising numbers", StoreBoundaries::checkpointRising);
        sentence("FILES below 2^31", StoreBoundaries::checkpointNumbersBelow);
        sentence("a PARTITION (0 to 7) in a CHECKPOINT", StoreBoundaries::checkpointPartition);
        sentence("A DATA object that the log tells with another PARTITION than it has is DAMAGED for it",
            StoreBoundaries::anotherPartition);
        sentence("that the log tells with another PARTITION, by a CHECKPOINT",
            StoreBoundaries::anotherPartitionInACheckpoint);
        end();
    }
}
