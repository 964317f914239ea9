/** Promises 1 to 4 and 13: a new object, format, write, read and writes. */
public final class VolumeTest {
    private final Check check = new Check();

    public static void main(String[] args) {
        VolumeTest test = new VolumeTest();
        test.promise1NewObject();
        test.promise2FormatClearsAll();
        test.promise2FormatBringsUp();
        test.promise2FormatTakesFuseAway();
        test.promise2FormatEndsRollback();
        test.promise3WritesEachWord();
        test.promise3CopiesForSharers();
        test.promise3RefusesWithoutCopyBlocks();
        test.promises3And4RefuseWrongPlaces();
        test.promise13CountsWrites();
        test.check.end();
    }

    private void promise1NewObject() {
        SnapshotVolume x = new SnapshotVolume();
        check.same("a new volume is down", x.isDown(), false);
        checkEmpty("a new volume", x);
        check.refuses("recover of a new volume", Check.STATE, x::recover);
        SnapshotVolume other = new SnapshotVolume();
        x.write(0, 0, 1);
        check.same("another volume's word", other.read(0, 0), 0);
    }

    private void checkEmpty(String what, SnapshotVolume x) {
        check.same("words of " + what, Check.volumeOf(x), "0 0 0 0; ".repeat(6));
        check.same("places of " + what, x.places(), 0);
        check.same("used of " + what, x.used(), 0);
        check.same("writes of " + what, x.writes(), 0);
    }

    private void promise2FormatClearsAll() {
        SnapshotVolume x = new SnapshotVolume();
        for (int k = 0; k < 24; k++) {
            x.write(k / 4, k % 4, k + 1);
        }
        x.snapshot();
        x.snapshot();
        x.write(2, 2, 50);
        x.writeSnapshot(1, 3, 3, 60);
        x.format();
        checkEmpty("a formatted volume", x);
        check.same("first place after format", x.snapshot(), 0);
        check.same("second place after format", x.snapshot(), 1);
        check.same("copies of stamps given before format", x.used(), 0);
        check.same("copyOf after format", x.copyOf(1, 3), -1);
        check.same("snapshot's word after format", x.readSnapshot(1, 3, 3), 0);
        check.same("rollback after format", x.rollback(0), 0);
    }

    private void promise2FormatBringsUp() {
        SnapshotVolume x = new SnapshotVolume();
        x.write(1, 1, 7);
        x.fuse(0);
        check.refuses("write without power", Check.POWER, () -> x.write(1, 1, 8));
        x.format();
        check.same("isDown after format", x.isDown(), false);
        checkEmpty("a volume formatted while down", x);
    }

    private void promise2FormatTakesFuseAway() {
        SnapshotVolume x = new SnapshotVolume();
        x.fuse(0);
        x.format();
        check.same("write after a format that took the fuse away", x.write(0, 0, 1), 0);
        check.same("its word", x.read(0, 0), 1);
    }

    private void promise2FormatEndsRollback() {
        SnapshotVolume x = new SnapshotVolume();
        x.snapshot();
        x.write(0, 0, 1);
        x.fuse(3);
        check.refuses("rollback cut short", Check.POWER, () -> x.rollback(0));
        x.format();
        x.fuse(0);
        check.refuses("snapshot without power", Check.POWER, x::snapshot);
        check.same("recover after format cleared ROLL", x.recover(), 0);
        check.same("writes of that recover", x.writes(), 0);
    }

    private void promise3WritesEachWord() {
        SnapshotVolume x = new SnapshotVolume();
        for (int k = 0; k < 24; k++) {
            check.same("copies of a write without snapshots", x.write(k / 4, k % 4, 100 - k * 7), 0);
        }
        for (int k = 0; k < 24; k++) {
            check.same("read " + k, x.read(k / 4, k % 4), 100 - k * 7);
        }
        x.write(5, 3, Integer.MIN_VALUE);
        x.write(0, 0, Integer.MAX_VALUE);
        check.same("the lowest int", x.read(5, 3), Integer.MIN_VALUE);
        check.same("the highest int", x.read(0, 0), Integer.MAX_VALUE);
        check.same("writes", x.writes(), 26);
    }

    private void promise3CopiesForSharers() {
        SnapshotVolume x = new SnapshotVolume();
        x.write(4, 1, 11);
        x.snapshot();
        x.snapshot();
        x.writeSnapshot(0, 4, 2, 12);
        x.snapshot();
        check.same("copies of a write with two sharers", x.write(4, 1, 13), 2);
        check.same("copy of place 0, made by writeSnapshot", x.copyOf(0, 4), 0);
        check.same("copy of place 1", x.copyOf(1, 4), 1);
        check.same("copy of place 2", x.copyOf(2, 4), 2);
        check.same("copies of a second write", x.write(4, 1, 14), 0);
        check.same("copies of a write of the same word", x.write(3, 0, 0), 3);
        for (int s = 0; s < 3; s++) {
            check.same("old word in place " + s, x.readSnapshot(s, 4, 1), 11);
        }
        check.same("new word", x.read(4, 1), 14);
        check.same("writes", x.writes(), 1 + 3 + 5 + 10 + 1 + 1 + 15 + 1);
    }

    private void promise3RefusesWithoutCopyBlocks() {
        SnapshotVolume x = new SnapshotVolume();
        x.snapshot();
        x.snapshot();
        for (int b = 0; b < 4; b++) {
            check.same("copies of the write of block " + b, x.write(b, 0, b + 1), 2);
        }
        x.fuse(0);
        check.refusesUnchanged("write with one copy block too few", Check.STATE, x, () -> x.write(4, 0, 5));
        check.same("isDown after that refusal", x.isDown(), false);
        x.fuse(-1);
        x.writeSnapshot(0, 4, 0, 9);
        check.same("used", x.used(), 9);
        check.refusesUnchanged("write with no copy block free", Check.STATE, x, () -> x.write(4, 0, 5));
        check.same("a write that needs no copy", x.write(3, 3, 8), 0);
        x.drop(0);
        check.same("a write that takes a dropped copy block", x.write(4, 0, 5), 1);
        check.same("the copy block it took", x.copyOf(1, 4), 0);
    }

    private void promises3And4RefuseWrongPlaces() {
        for (int b : Volumes.WRONG_BLOCKS) {
            check.refusesUnchanged("write to block " + b, Check.ARGUMENT, VolumeTest::fused, x -> x.write(b, 0, 1));
            check.refusesUnchanged("read of block " + b, Check.ARGUMENT, VolumeTest::fused, x -> x.read(b, 0));
        }
        for (int i : Volumes.WRONG_WORDS) {
            check.refusesUnchanged("write to word " + i, Check.ARGUMENT, VolumeTest::fused, x -> x.write(0, i, 1));
            check.refusesUnchanged("read of word " + i, Check.ARGUMENT, VolumeTest::fused, x -> x.read(0, i));
        }
    }

    /** A volume that goes down at the first write, so that a refused call that wrote would show. */
    private static SnapshotVolume fused() {
        SnapshotVolume x = Volumes.withSnapshots(1);
        x.fuse(0);
        return x;
    }

    private void promise13CountsWrites() {
        SnapshotVolume x = new SnapshotVolume();
        x.snapshot();
        check.same("writes after snapshot", x.writes(), 1);
        x.write(0, 0, 1);
        check.same("writes after a write with a copy", x.writes(), 7);
        x.writeSnapshot(0, 0, 1, 2);
        check.same("writes after writeSnapshot into a copy", x.writes(), 8);
        x.writeSnapshot(0, 1, 1, 2);
        check.same("writes after writeSnapshot with a copy", x.writes(), 13);
        x.rollback(0);
        check.same("writes after rollback", x.writes(), 13 + 2 + 2 * 5 + 1);
        x.drop(0);
        check.same("writes after drop", x.writes(), 27);
        x.read(0, 0);
        x.used();
        x.places();
        x.fuse(2);
        check.same("writes after calls that write nothing", x.writes(), 27);
        x.snapshot();
        check.refuses("write cut short", Check.POWER, () -> x.write(0, 0, 1));
        check.same("writes while down", x.writes(), 29);
        x.recover();
        check.same("writes after recover with ROLL 0", x.writes(), 29);
        x.format();
        check.same("writes after format", x.writes(), 0);
    }
}
